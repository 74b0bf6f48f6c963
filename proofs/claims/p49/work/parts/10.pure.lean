section Pq09
section NR
variable {l : Launch} {G : GT} {M : MT} {fr lo mc ms : Nat} {Post : PT} {n0 nc ns pc : Nat} {L L' : List (Nat × Value)} {S : List Value} {f : HT} {n : Nat}
theorem aw_iadd_n {a b : Nat} (hdg : decode M.2.1 pc = .ok (.iadd, 1)) (k : AW l G M fr lo mc ms Post n0 nc ns (pc + 1) L (.int (nI (a + b)) :: S) f n) : AW l G M fr lo mc ms Post n0 nc ns pc L (.int (nI b) :: .int (nI a) :: S) f n :=
  aw_iadd hdg (by rw [nI_add]; exact k)
theorem aw_isub_n {a b : Nat} (h : b ≤ a) (hdg : decode M.2.1 pc = .ok (.isub, 1)) (k : AW l G M fr lo mc ms Post n0 nc ns (pc + 1) L (.int (nI (a - b)) :: S) f n) : AW l G M fr lo mc ms Post n0 nc ns pc L (.int (nI b) :: .int (nI a) :: S) f n :=
  aw_isub hdg (by rw [pk_sub h]; exact k)
theorem aw_imul_n {a b : Nat} (hdg : decode M.2.1 pc = .ok (.imul, 1)) (k : AW l G M fr lo mc ms Post n0 nc ns (pc + 1) L (.int (nI (a * b)) :: S) f n) : AW l G M fr lo mc ms Post n0 nc ns pc L (.int (nI b) :: .int (nI a) :: S) f n :=
  aw_imul hdg (by rw [pk_mul]; exact k)
theorem aw_idiv_n {a b : Nat} (ha : a < 2 ^ 31) (h0 : 0 < b) (hb : b < 2 ^ 31) (hdg : decode M.2.1 pc = .ok (.idiv, 1)) (k : AW l G M fr lo mc ms Post n0 nc ns (pc + 1) L (.int (nI (a / b)) :: S) f n) : AW l G M fr lo mc ms Post n0 nc ns pc L (.int (nI b) :: .int (nI a) :: S) f n :=
  aw_idiv (nI_ne0 h0 hb) hdg (by rw [pk_div ha h0 hb]; exact k)
theorem aw_irem_n {a b : Nat} (ha : a < 2 ^ 31) (h0 : 0 < b) (hb : b < 2 ^ 31) (hdg : decode M.2.1 pc = .ok (.irem, 1)) (k : AW l G M fr lo mc ms Post n0 nc ns (pc + 1) L (.int (nI (a % b)) :: S) f n) : AW l G M fr lo mc ms Post n0 nc ns pc L (.int (nI b) :: .int (nI a) :: S) f n :=
  aw_irem (nI_ne0 h0 hb) hdg (by rw [pk_rem ha h0 hb]; exact k)
theorem aw_iconst_n {z : Int} (v : Nat) (hdg : decode M.2.1 pc = .ok (.iconst z, 1)) (hv : Int32.ofInt z = nI v) (k : AW l G M fr lo mc ms Post n0 nc ns (pc + 1) L (.int (nI v) :: S) f n) : AW l G M fr lo mc ms Post n0 nc ns pc L S f n := aw_iconst hdg hv k
theorem aw_bipush_n {z : Int} (v : Nat) (hdg : decode M.2.1 pc = .ok (.bipush z, 2)) (hv : (Int8.ofInt z).toInt32 = nI v) (k : AW l G M fr lo mc ms Post n0 nc ns (pc + 2) L (.int (nI v) :: S) f n) : AW l G M fr lo mc ms Post n0 nc ns pc L S f n := aw_bipush hdg hv k
theorem aw_sipush_n {z : Int} (v : Nat) (hdg : decode M.2.1 pc = .ok (.sipush z, 3)) (hv : (Int16.ofInt z).toInt32 = nI v) (k : AW l G M fr lo mc ms Post n0 nc ns (pc + 3) L (.int (nI v) :: S) f n) : AW l G M fr lo mc ms Post n0 nc ns pc L S f n := aw_sipush hdg hv k
theorem aw_iinc_n {i a : Nat} {z : Int} (c : Nat) (hdg : decode M.2.1 pc = .ok (.iinc i z, 3)) (hl : lk L i = some (.int (nI a))) (hz : Int32.ofInt z = nI c) (hn : i < M.2.2.1) (hL : lset L i (.int (nI (a + c))) = L') (k : AW l G M fr lo mc ms Post n0 nc ns (pc + 3) L' S f n) : AW l G M fr lo mc ms Post n0 nc ns pc L S f n :=
  aw_iinc (v := nI (a + c)) hdg hl (by rw [hz, nI_add]) hn hL k
theorem aw_idec_n {i a : Nat} {z : Int} (h : 1 ≤ a) (hdg : decode M.2.1 pc = .ok (.iinc i z, 3)) (hl : lk L i = some (.int (nI a))) (hz : Int32.ofInt z = -1) (hn : i < M.2.2.1) (hL : lset L i (.int (nI (a - 1))) = L') (k : AW l G M fr lo mc ms Post n0 nc ns (pc + 3) L' S f n) : AW l G M fr lo mc ms Post n0 nc ns pc L S f n :=
  aw_iinc (v := nI (a - 1)) hdg hl (by
    obtain ⟨b, rfl⟩ : ∃ b, a = b + 1 := ⟨a - 1, by omega⟩
    rw [hz, pk_m1]; rfl) hn hL k
theorem nI_eq0 {a : Nat} (ha : a < 2 ^ 31) : nI a = 0 ↔ a = 0 := by
  have h := nI_eq (a := a) (b := 0) ha (by decide)
  rw [nI_0] at h
  exact h
theorem aw_if_eq_n {a : Nat} (ha : a < 2 ^ 31) {off : Int} {tgt : Nat} (hdg : decode M.2.1 pc = .ok (.ifCond .eq off, 3)) (ht : (pc : Int) + off = (tgt : Int)) (kt : a = 0 → AW l G M fr lo mc ms Post n0 nc ns tgt L S f n) (kf : a ≠ 0 → AW l G M fr lo mc ms Post n0 nc ns (pc + 3) L S f n) : AW l G M fr lo mc ms Post n0 nc ns pc L (.int (nI a) :: S) f n :=
  aw_if_eq hdg ht (fun h => kt ((nI_eq0 ha).mp h)) (fun h => kf fun z => h ((nI_eq0 ha).mpr z))
theorem aw_if_ne_n {a : Nat} (ha : a < 2 ^ 31) {off : Int} {tgt : Nat} (hdg : decode M.2.1 pc = .ok (.ifCond .ne off, 3)) (ht : (pc : Int) + off = (tgt : Int)) (kt : a ≠ 0 → AW l G M fr lo mc ms Post n0 nc ns tgt L S f n) (kf : a = 0 → AW l G M fr lo mc ms Post n0 nc ns (pc + 3) L S f n) : AW l G M fr lo mc ms Post n0 nc ns pc L (.int (nI a) :: S) f n :=
  aw_if_ne hdg ht (fun h => kt fun z => h ((nI_eq0 ha).mpr z)) (fun h => kf ((nI_eq0 ha).mp h))
theorem aw_if_gt_n {a : Nat} (ha : a < 2 ^ 31) {off : Int} {tgt : Nat} (hdg : decode M.2.1 pc = .ok (.ifCond .gt off, 3)) (ht : (pc : Int) + off = (tgt : Int)) (kt : 0 < a → AW l G M fr lo mc ms Post n0 nc ns tgt L S f n) (kf : a = 0 → AW l G M fr lo mc ms Post n0 nc ns (pc + 3) L S f n) : AW l G M fr lo mc ms Post n0 nc ns pc L (.int (nI a) :: S) f n :=
  aw_if_gt hdg ht (fun h => kt (Nat.pos_of_ne_zero fun z => by subst z; exact absurd h (by decide))) (fun h => kf (by
    rcases Nat.eq_zero_or_pos a with z | z
    · exact z
    · exact absurd (nI_0 ▸ nI_lt z ha) h))
theorem aw_if_le_n {a : Nat} (ha : a < 2 ^ 31) {off : Int} {tgt : Nat} (hdg : decode M.2.1 pc = .ok (.ifCond .le off, 3)) (ht : (pc : Int) + off = (tgt : Int)) (kt : a = 0 → AW l G M fr lo mc ms Post n0 nc ns tgt L S f n) (kf : 0 < a → AW l G M fr lo mc ms Post n0 nc ns (pc + 3) L S f n) : AW l G M fr lo mc ms Post n0 nc ns pc L (.int (nI a) :: S) f n :=
  aw_if_le hdg ht (fun h => kt (by
    rcases Nat.eq_zero_or_pos a with z | z
    · exact z
    · exact absurd h (nI_nle z ha))) (fun h => kf (Nat.pos_of_ne_zero fun z => by subst z; exact absurd (by decide) h))
theorem aw_if_lt_n {a : Nat} (ha : a < 2 ^ 31) {off : Int} (hdg : decode M.2.1 pc = .ok (.ifCond .lt off, 3)) {tgt : Nat} (ht : (pc : Int) + off = (tgt : Int)) (kf : AW l G M fr lo mc ms Post n0 nc ns (pc + 3) L S f n) : AW l G M fr lo mc ms Post n0 nc ns pc L (.int (nI a) :: S) f n :=
  aw_if_lt hdg ht (fun h => absurd h (nI_pos ha)) (fun _ => kf)
theorem aw_if_ge_n {a : Nat} (ha : a < 2 ^ 31) {off : Int} (hdg : decode M.2.1 pc = .ok (.ifCond .ge off, 3)) {tgt : Nat} (ht : (pc : Int) + off = (tgt : Int)) (kt : AW l G M fr lo mc ms Post n0 nc ns tgt L S f n) : AW l G M fr lo mc ms Post n0 nc ns pc L (.int (nI a) :: S) f n :=
  aw_if_ge hdg ht (fun _ => kt) (fun h => absurd (nI_pos' ha) h)
theorem aw_icmp_eq_n {a b : Nat} (ha : a < 2 ^ 31) (hb : b < 2 ^ 31) {off : Int} {tgt : Nat} (hdg : decode M.2.1 pc = .ok (.if_icmp .eq off, 3)) (ht : (pc : Int) + off = (tgt : Int)) (kt : a = b → AW l G M fr lo mc ms Post n0 nc ns tgt L S f n) (kf : a ≠ b → AW l G M fr lo mc ms Post n0 nc ns (pc + 3) L S f n) : AW l G M fr lo mc ms Post n0 nc ns pc L (.int (nI b) :: .int (nI a) :: S) f n :=
  aw_icmp_eq hdg ht (fun h => kt ((nI_eq ha hb).mp h)) (fun h => kf (fun z => h ((nI_eq ha hb).mpr z)))
theorem aw_icmp_ne_n {a b : Nat} (ha : a < 2 ^ 31) (hb : b < 2 ^ 31) {off : Int} {tgt : Nat} (hdg : decode M.2.1 pc = .ok (.if_icmp .ne off, 3)) (ht : (pc : Int) + off = (tgt : Int)) (kt : a ≠ b → AW l G M fr lo mc ms Post n0 nc ns tgt L S f n) (kf : a = b → AW l G M fr lo mc ms Post n0 nc ns (pc + 3) L S f n) : AW l G M fr lo mc ms Post n0 nc ns pc L (.int (nI b) :: .int (nI a) :: S) f n :=
  aw_icmp_ne hdg ht (fun h => kt (fun z => h ((nI_eq ha hb).mpr z))) (fun h => kf ((nI_eq ha hb).mp h))
theorem aw_icmp_lt_n {a b : Nat} (ha : a < 2 ^ 31) (hb : b < 2 ^ 31) {off : Int} {tgt : Nat} (hdg : decode M.2.1 pc = .ok (.if_icmp .lt off, 3)) (ht : (pc : Int) + off = (tgt : Int)) (kt : a < b → AW l G M fr lo mc ms Post n0 nc ns tgt L S f n) (kf : b ≤ a → AW l G M fr lo mc ms Post n0 nc ns (pc + 3) L S f n) : AW l G M fr lo mc ms Post n0 nc ns pc L (.int (nI b) :: .int (nI a) :: S) f n :=
  aw_icmp_lt hdg ht (fun h => kt ((nI_ltI ha hb).mp h)) (fun h => kf (Nat.le_of_not_lt fun z => h ((nI_ltI ha hb).mpr z)))
theorem aw_icmp_ge_n {a b : Nat} (ha : a < 2 ^ 31) (hb : b < 2 ^ 31) {off : Int} {tgt : Nat} (hdg : decode M.2.1 pc = .ok (.if_icmp .ge off, 3)) (ht : (pc : Int) + off = (tgt : Int)) (kt : b ≤ a → AW l G M fr lo mc ms Post n0 nc ns tgt L S f n) (kf : a < b → AW l G M fr lo mc ms Post n0 nc ns (pc + 3) L S f n) : AW l G M fr lo mc ms Post n0 nc ns pc L (.int (nI b) :: .int (nI a) :: S) f n :=
  aw_icmp_ge hdg ht (fun h => kt ((nI_leI hb ha).mp h)) (fun h => kf (Nat.lt_of_not_le fun z => h ((nI_leI hb ha).mpr z)))
theorem aw_icmp_gt_n {a b : Nat} (ha : a < 2 ^ 31) (hb : b < 2 ^ 31) {off : Int} {tgt : Nat} (hdg : decode M.2.1 pc = .ok (.if_icmp .gt off, 3)) (ht : (pc : Int) + off = (tgt : Int)) (kt : b < a → AW l G M fr lo mc ms Post n0 nc ns tgt L S f n) (kf : a ≤ b → AW l G M fr lo mc ms Post n0 nc ns (pc + 3) L S f n) : AW l G M fr lo mc ms Post n0 nc ns pc L (.int (nI b) :: .int (nI a) :: S) f n :=
  aw_icmp_gt hdg ht (fun h => kt ((nI_ltI hb ha).mp h)) (fun h => kf (Nat.le_of_not_lt fun z => h ((nI_ltI hb ha).mpr z)))
theorem aw_icmp_le_n {a b : Nat} (ha : a < 2 ^ 31) (hb : b < 2 ^ 31) {off : Int} {tgt : Nat} (hdg : decode M.2.1 pc = .ok (.if_icmp .le off, 3)) (ht : (pc : Int) + off = (tgt : Int)) (kt : a ≤ b → AW l G M fr lo mc ms Post n0 nc ns tgt L S f n) (kf : b < a → AW l G M fr lo mc ms Post n0 nc ns (pc + 3) L S f n) : AW l G M fr lo mc ms Post n0 nc ns pc L (.int (nI b) :: .int (nI a) :: S) f n :=
  aw_icmp_le hdg ht (fun h => kt ((nI_leI ha hb).mp h)) (fun h => kf (Nat.lt_of_not_le fun z => h ((nI_leI ha hb).mpr z)))
theorem aw_iald_n {a N k : Nat} {g : Nat → Int32} {v : Int32} (hf : f a = .inl (0, (N, .inl g))) (hk : k < N) (hN : N < 2 ^ 31) (hv : g k = v) (hdg : decode M.2.1 pc = .ok (.iaload, 1)) (k9 : AW l G M fr lo mc ms Post n0 nc ns (pc + 1) L (.int v :: S) f n) : AW l G M fr lo mc ms Post n0 nc ns pc L (.int (nI k) :: .ref a :: S) f n :=
  aw_iald hf (vp_in_nI hk hN) hdg (by rw [nI_clamp (Nat.lt_trans hk hN), hv]; exact k9)
theorem aw_cald_n {a N k : Nat} {g : Nat → Int32} {v : Int32} (hf : f a = .inl (1, (N, .inl g))) (hk : k < N) (hN : N < 2 ^ 31) (hv : g k = v) (hdg : decode M.2.1 pc = .ok (.caload, 1)) (k9 : AW l G M fr lo mc ms Post n0 nc ns (pc + 1) L (.int v :: S) f n) : AW l G M fr lo mc ms Post n0 nc ns pc L (.int (nI k) :: .ref a :: S) f n :=
  aw_cald hf (vp_in_nI hk hN) hdg (by rw [nI_clamp (Nat.lt_trans hk hN), hv]; exact k9)
theorem aw_iast_n {a N k : Nat} {g : Nat → Int32} {x : Int32} (hf : f a = .inl (0, (N, .inl g))) (hk : k < N) (hN : N < 2 ^ 31) (hdg : decode M.2.1 pc = .ok (.iastore, 1)) (k9 : AW l G M fr lo mc ms Post n0 nc ns (pc + 1) L S (va_up f a (.inl (0, (N, .inl (upd g k x))))) n) : AW l G M fr lo mc ms Post n0 nc ns pc L (.int x :: .int (nI k) :: .ref a :: S) f n :=
  aw_iast hf (vp_in_nI hk hN) hdg (by rw [nI_clamp (Nat.lt_trans hk hN)]; exact k9)
theorem aw_cast_n {a N k : Nat} {g : Nat → Int32} {x : Int32} (hf : f a = .inl (1, (N, .inl g))) (hk : k < N) (hN : N < 2 ^ 31) (hx : vp_nar .char x = x) (hdg : decode M.2.1 pc = .ok (.castore, 1)) (k9 : AW l G M fr lo mc ms Post n0 nc ns (pc + 1) L S (va_up f a (.inl (1, (N, .inl (upd g k x))))) n) : AW l G M fr lo mc ms Post n0 nc ns pc L (.int x :: .int (nI k) :: .ref a :: S) f n :=
  aw_cast hf (vp_in_nI hk hN) hdg (by rw [nI_clamp (Nat.lt_trans hk hN), hx]; exact k9)
end NR
/-! a region of the heap: w cells from o on -/
def rU (f : HT) (o w : Nat) (C : Nat → va_E) : HT := fun a => if o ≤ a ∧ a < o + w then C (a - o) else f a
theorem rU_at {f : HT} {o w : Nat} {C : Nat → va_E} (j : Nat) (h : j < w) : rU f o w C (o + j) = C j := by
  have e : o + j - o = j := by omega
  simp only [rU]
  rw [if_pos (by omega), e]
theorem rU_out {f : HT} {o w : Nat} {C : Nat → va_E} {a : Nat} (h : a < o ∨ o + w ≤ a) : rU f o w C a = f a := by
  simp only [rU]
  rw [if_neg (by omega)]
theorem rU_up {f : HT} {o w : Nat} {C : Nat → va_E} (j : Nat) (h : j < w) (c : va_E) : va_up (rU f o w C) (o + j) c = rU f o w (va_up C j c) := by
  funext a
  by_cases ha : a = o + j
  · subst ha
    rw [up_self, rU_at j h, up_self]
  · rw [up_ne ha]
    by_cases hi : o ≤ a ∧ a < o + w
    · obtain ⟨k, rfl⟩ : ∃ k, a = o + k := ⟨a - o, by omega⟩
      rw [rU_at k (by omega), rU_at k (by omega), up_ne (by omega)]
    · rw [rU_out (by omega), rU_out (by omega)]
theorem rU_self {f : HT} {o w : Nat} {C : Nat → va_E} (h : ∀ j, j < w → f (o + j) = C j) : rU f o w C = f := by
  funext a
  by_cases hi : o ≤ a ∧ a < o + w
  · obtain ⟨k, rfl⟩ : ∃ k, a = o + k := ⟨a - o, by omega⟩
    rw [rU_at k (by omega), h k (by omega)]
  · rw [rU_out (by omega)]
end Pq09
section Pq10
/-! answers: an int and the heap behind; nothing and the heap behind -/
def rI (x : Int32) (f : HT) (n : Nat) : PT := fun r f' n' => r = .inl (some (.int x)) ∧ f' = f ∧ n' = n
def rV (f : HT) (n : Nat) : PT := fun r f' n' => r = .inl none ∧ f' = f ∧ n' = n
theorem rI_of {x v : Int32} {f : HT} {n : Nat} (h : v = x) : rI x f n (.inl (some (.int v))) f n := ⟨by rw [h], rfl, rfl⟩
theorem rI_of2 {x v : Int32} {f f' : HT} {n : Nat} (h : v = x) (hf : f' = f) : rI x f n (.inl (some (.int v))) f' n := ⟨by rw [h], hf, rfl⟩
theorem rV_of {f f' : HT} {n : Nat} (hf : f' = f) : rV f n (.inl none) f' n := ⟨rfl, hf, rfl⟩
def bI (b : Bool) : Int32 := match b with
  | true => 1
  | false => 0
theorem bI_nar (b : Bool) : narrow .boolean (.int (bI b)) = .int (bI b) := by cases b <;> rfl
/-- 0 ≤ v < c -/
def isK (v : Int32) (c : Nat) : Bool := decide (0 ≤ v.toInt ∧ v.toInt < (c : Int))
theorem isK_nI {k c : Nat} (hk : k < 2 ^ 31) : isK (nI k) c = decide (k < c) := by
  unfold isK
  rw [nI_toInt hk]
  simp
theorem isK_of {v : Int32} {c : Nat} (hc : c < 2 ^ 31) (h : isK v c = true) : ∃ k, k < c ∧ v = nI k := by
  have h := of_decide_eq_true h
  exact vp_in_of (vp_in_iff.mpr h) hc
def inB (v lo hi : Int32) : Bool := decide (lo ≤ v) && decide (v ≤ hi)
theorem inB_of {v : Int32} {a b : Nat} (ha : a < 2 ^ 31) (hb : b + 1 < 2 ^ 31) (h : inB v (nI a) (nI b) = true) : ∃ k, a ≤ k ∧ k ≤ b ∧ v = nI k := by
  simp only [inB, Bool.and_eq_true, decide_eq_true_eq] at h
  have h1 := Int32.le_iff_toInt_le.mp h.1
  have h2 := Int32.le_iff_toInt_le.mp h.2
  rw [nI_toInt ha] at h1
  rw [nI_toInt (by omega)] at h2
  obtain ⟨k, hk, e⟩ := vp_in_of (x := v) (n := b + 1) (vp_in_iff.mpr ⟨by omega, by omega⟩) hb
  subst e
  rw [nI_toInt (by omega)] at h1
  exact ⟨k, by omega, by omega, rfl⟩
section CRI
variable {l : Launch} {G : GT} {M : MT} {fr lo mc ms : Nat} {Post : PT} {n0 nc ns pc : Nat} {L L' : List (Nat × Value)} {S : List Value} {f f2 : HT} {n : Nat}
theorem aw_if_eq_b {b : Bool} {off : Int} {tgt : Nat} (hdg : decode M.2.1 pc = .ok (.ifCond .eq off, 3)) (ht : (pc : Int) + off = (tgt : Int)) (kt : b = false → AW l G M fr lo mc ms Post n0 nc ns tgt L S f n) (kf : b = true → AW l G M fr lo mc ms Post n0 nc ns (pc + 3) L S f n) : AW l G M fr lo mc ms Post n0 nc ns pc L (.int (bI b) :: S) f n :=
  aw_if_eq hdg ht (fun h => kt (by cases b; rfl; exact absurd h (by decide))) (fun h => kf (by cases b; exact absurd rfl h; rfl))
theorem aw_if_ne_b {b : Bool} {off : Int} {tgt : Nat} (hdg : decode M.2.1 pc = .ok (.ifCond .ne off, 3)) (ht : (pc : Int) + off = (tgt : Int)) (kt : b = true → AW l G M fr lo mc ms Post n0 nc ns tgt L S f n) (kf : b = false → AW l G M fr lo mc ms Post n0 nc ns (pc + 3) L S f n) : AW l G M fr lo mc ms Post n0 nc ns pc L (.int (bI b) :: S) f n :=
  aw_if_ne hdg ht (fun h => kt (by cases b; exact absurd rfl h; rfl)) (fun h => kf (by cases b; rfl; exact absurd h (by decide)))
/-- calls by name that return an int, or nothing; static ones -/
theorem aw_vI {y : MethodName} {cc' : ByteArray} {nL' kk ix ci a fr' lo' mc' ms' : Nat} {ret' : Option FieldType} {as rest st : List Value} {vs : List Value} {x : Int32} (hMV : MV y cc' nL' ret' kk) (hA : AM l G y (.code y cc' nL' ret') fr' lo' mc' ms' (.ref a :: as) f n (rI x f2 n)) (hl : Cond.methodLink M.1 ix y ∈ Big) (hf : f a = .inr (ci, vs)) (hci : (clW[ci]?).map (fun q => q.1) = some y.cls)
    (hdg : decode M.2.1 pc = .ok (.invokevirtual ix, 3)) (hst : as.reverse ++ .ref a :: rest = st) (hk : as.length = kk) (hR : fr' + 1 ≤ fr ∧ 8 + (nL' + 11) + lo' ≤ lo) (hcat : (rest.map fun v => v.category).sum ≤ 8) (hc : nc + mc' ≤ mc ∧ ns + ms' ≤ ms) (k : AW l G M fr lo mc ms Post n0 (nc + mc') (ns + ms') (pc + 3) L (.int x :: rest) f2 n) : AW l G M fr lo mc ms Post n0 nc ns pc L st f n := by
  subst hst
  exact aw_call (cr_V hMV hA hl hf hci hdg hk hR.1 hR.2 hcat hc.1 hc.2) (fun v h => List.mem_append_right _ (List.mem_cons_of_mem _ h)) (fun E f' n' _ h => by cases h.1) (fun r f' n' _ h => by
    obtain ⟨h1, h2, h3⟩ := h
    cases h1; subst h2; subst h3
    exact k)
theorem aw_vV {y : MethodName} {cc' : ByteArray} {nL' kk ix ci a fr' lo' mc' ms' : Nat} {ret' : Option FieldType} {as rest st : List Value} {vs : List Value} (hMV : MV y cc' nL' ret' kk) (hA : AM l G y (.code y cc' nL' ret') fr' lo' mc' ms' (.ref a :: as) f n (rV f2 n)) (hl : Cond.methodLink M.1 ix y ∈ Big) (hf : f a = .inr (ci, vs)) (hci : (clW[ci]?).map (fun q => q.1) = some y.cls)
    (hdg : decode M.2.1 pc = .ok (.invokevirtual ix, 3)) (hst : as.reverse ++ .ref a :: rest = st) (hk : as.length = kk) (hR : fr' + 1 ≤ fr ∧ 8 + (nL' + 11) + lo' ≤ lo) (hcat : (rest.map fun v => v.category).sum ≤ 8) (hc : nc + mc' ≤ mc ∧ ns + ms' ≤ ms) (k : AW l G M fr lo mc ms Post n0 (nc + mc') (ns + ms') (pc + 3) L rest f2 n) : AW l G M fr lo mc ms Post n0 nc ns pc L st f n := by
  subst hst
  exact aw_call (cr_V hMV hA hl hf hci hdg hk hR.1 hR.2 hcat hc.1 hc.2) (fun v h => List.mem_append_right _ (List.mem_cons_of_mem _ h)) (fun E f' n' _ h => by cases h.1) (fun r f' n' _ h => by
    obtain ⟨h1, h2, h3⟩ := h
    cases h1; subst h2; subst h3
    exact k)
/-- .. with any post that doesn't throw -/
theorem aw_vP {y : MethodName} {cc' : ByteArray} {nL' kk ix ci a fr' lo' mc' ms' : Nat} {ret' : Option FieldType} {as rest st : List Value} {vs : List Value} {P' : PT} (hMV : MV y cc' nL' ret' kk) (hA : AM l G y (.code y cc' nL' ret') fr' lo' mc' ms' (.ref a :: as) f n P') (hl : Cond.methodLink M.1 ix y ∈ Big) (hf : f a = .inr (ci, vs)) (hci : (clW[ci]?).map (fun q => q.1) = some y.cls)
    (hdg : decode M.2.1 pc = .ok (.invokevirtual ix, 3)) (hst : as.reverse ++ .ref a :: rest = st) (hk : as.length = kk) (hR : fr' + 1 ≤ fr ∧ 8 + (nL' + 11) + lo' ≤ lo) (hcat : (rest.map fun v => v.category).sum ≤ 8) (hc : nc + mc' ≤ mc ∧ ns + ms' ≤ ms) (hno : ∀ (E : String) (f' : HT) (n' : Nat), ¬ P' (.inr E) f' n')
    (k : ∀ (r : Option Value) (f' : HT) (n' : Nat), n ≤ n' → P' (.inl r) f' n' → AW l G M fr lo mc ms Post n0 (nc + mc') (ns + ms') (pc + 3) L (r.toList ++ rest) f' n') : AW l G M fr lo mc ms Post n0 nc ns pc L st f n := by
  subst hst
  exact aw_call (cr_V hMV hA hl hf hci hdg hk hR.1 hR.2 hcat hc.1 hc.2) (fun v h => List.mem_append_right _ (List.mem_cons_of_mem _ h)) (fun E f' n' _ h => absurd h (hno E f' n')) k
theorem aw_sI {y : MethodName} {cc' : ByteArray} {nL' kk ix fr' lo' mc' ms' : Nat} {ret' : Option FieldType} {as rest st : List Value} {x : Int32} (hMS : MS y cc' nL' ret' kk) (hA : AM l G y (.code y cc' nL' ret') fr' lo' mc' ms' as f n (rI x f2 n)) (hl : Cond.methodLink M.1 ix y ∈ Big)
    (hdg : decode M.2.1 pc = .ok (.invokestatic ix, 3)) (hst : as.reverse ++ rest = st) (hk : as.length = kk) (hR : fr' + 1 ≤ fr ∧ 8 + (nL' + 11) + lo' ≤ lo) (hcat : (rest.map fun v => v.category).sum ≤ 8) (hc : nc + mc' ≤ mc ∧ ns + ms' ≤ ms) (k : AW l G M fr lo mc ms Post n0 (nc + mc') (ns + ms') (pc + 3) L (.int x :: rest) f2 n) : AW l G M fr lo mc ms Post n0 nc ns pc L st f n := by
  subst hst
  exact aw_call (cr_S hMS hA hl hdg hk hR.1 hR.2 hcat hc.1 hc.2) (fun v h => List.mem_append_right _ h) (fun E f' n' _ h => by cases h.1) (fun r f' n' _ h => by
    obtain ⟨h1, h2, h3⟩ := h
    cases h1; subst h2; subst h3
    exact k)
theorem aw_sV {y : MethodName} {cc' : ByteArray} {nL' kk ix fr' lo' mc' ms' : Nat} {ret' : Option FieldType} {as rest st : List Value} (hMS : MS y cc' nL' ret' kk) (hA : AM l G y (.code y cc' nL' ret') fr' lo' mc' ms' as f n (rV f2 n)) (hl : Cond.methodLink M.1 ix y ∈ Big)
    (hdg : decode M.2.1 pc = .ok (.invokestatic ix, 3)) (hst : as.reverse ++ rest = st) (hk : as.length = kk) (hR : fr' + 1 ≤ fr ∧ 8 + (nL' + 11) + lo' ≤ lo) (hcat : (rest.map fun v => v.category).sum ≤ 8) (hc : nc + mc' ≤ mc ∧ ns + ms' ≤ ms) (k : AW l G M fr lo mc ms Post n0 (nc + mc') (ns + ms') (pc + 3) L rest f2 n) : AW l G M fr lo mc ms Post n0 nc ns pc L st f n := by
  subst hst
  exact aw_call (cr_S hMS hA hl hdg hk hR.1 hR.2 hcat hc.1 hc.2) (fun v h => List.mem_append_right _ h) (fun E f' n' _ h => by cases h.1) (fun r f' n' _ h => by
    obtain ⟨h1, h2, h3⟩ := h
    cases h1; subst h2; subst h3
    exact k)
end CRI
/-! the reference's object: its ints I, its arrays A, nine cells from o on -/
def mFs (o : Nat) (I : Nat → Int32) : List Value := [.ref (o + 1), .ref (o + 2), .ref (o + 3), .int (I 3), .ref (o + 4), .int (I 5), .ref (o + 5), .int (I 7), .int (I 8), .int (I 9), .ref (o + 6), .int (I 11), .int (I 12), .ref (o + 7), .int (I 14), .int (I 15), .ref (o + 8)]
def mC (o : Nat) (I : Nat → Int32) (A : Nat → Nat → Int32) : Nat → va_E := fun j => match j with
  | 0 => .inr (7, mFs o I)
  | 1 => .inl (0, (48, .inl (A 0)))
  | 2 => .inl (0, (48, .inl (A 1)))
  | 3 => .inl (0, (384, .inl (A 2)))
  | 4 => .inl (0, (48, .inl (A 3)))
  | 5 => .inl (1, (60, .inl (A 4)))
  | 6 => .inl (1, (60, .inl (A 5)))
  | 7 => .inl (0, (256, .inl (A 6)))
  | 8 => .inl (0, (180, .inl (A 7)))
  | _ => nilc
abbrev mU (f : HT) (o : Nat) (I : Nat → Int32) (A : Nat → Nat → Int32) : HT := rU f o 9 (mC o I A)
section MR
variable {f : HT} {o : Nat} {I : Nat → Int32} {A : Nat → Nat → Int32}
section MW
variable {l : Launch} {G : GT} {M : MT} {fr lo mc ms : Nat} {Post : PT} {n0 nc ns pc : Nat} {L : List (Nat × Value)} {S : List Value} {n : Nat}
/-- a cell of the gymnasium's numbers is written -/
def Mok (A : Nat → Nat → Int32) (V : Nat → Nat) : Prop := ∀ i, i < 48 → A 0 i = nI (V i)
theorem Mok.set {A : Nat → Nat → Int32} {V : Nat → Nat} (h : Mok A V) (k x : Nat) : Mok (va_up A 0 (upd (A 0) k (nI x))) (va_up V k x) := by
  intro i hi
  rw [up_self]
  by_cases hk : i = k
  · subst hk; rw [pk_us, up_self]
  · rw [pk_un hk, up_ne hk]; exact h i hi
end MW
end MR
/-- the bounds of the gymnasium's numbers; K bounds the clock -/
def VB (K : Nat) (V : Nat → Nat) : Prop := V 0 ≤ K ∧ K < 16000000 ∧ V 1 ≤ 30 ∧ V 2 ≤ 8 ∧ V 3 ≤ 6 ∧ (∀ k, k < 8 → V (4 + k) ≤ 99 ∧ (k < V 2 → 1 ≤ V (4 + k))) ∧ (∀ k, k < 8 → V (12 + k) ≤ 60 ∧ V (20 + k) ≤ V 0 ∧ V (28 + k) ≤ V 0 ∧ (V 2 ≤ k → V (12 + k) = 0 ∧ V (20 + k) = 0 ∧ V (28 + k) = 0)) ∧ (∀ k, k < 3 → V (36 + k) ≤ 60 ∧ V (39 + k) < 8) ∧ (∀ k, k < 6 → V (42 + k) ≤ 60)
section VBS
variable {K : Nat} {V : Nat → Nat}
theorem VB.now (h : VB K V) : V 0 ≤ K := h.1
theorem VB.kk (h : VB K V) : K < 16000000 := h.2.1
theorem VB.fric (h : VB K V) : V 1 ≤ 30 := h.2.2.1
theorem VB.cnt (h : VB K V) : V 2 ≤ 8 := h.2.2.2.1
theorem VB.legs (h : VB K V) : V 3 ≤ 6 := h.2.2.2.2.1
theorem VB.len (h : VB K V) {k : Nat} (hk : k < 8) : V (4 + k) ≤ 99 := (h.2.2.2.2.2.1 k hk).1
theorem VB.len1 (h : VB K V) {k : Nat} (hk : k < V 2) : 1 ≤ V (4 + k) := (h.2.2.2.2.2.1 k (Nat.lt_of_lt_of_le hk h.cnt)).2 hk
theorem VB.amp (h : VB K V) {k : Nat} (hk : k < 8) : V (12 + k) ≤ 60 := (h.2.2.2.2.2.2.1 k hk).1
theorem VB.start (h : VB K V) {k : Nat} (hk : k < 8) : V (20 + k) ≤ V 0 := (h.2.2.2.2.2.2.1 k hk).2.1
theorem VB.sw (h : VB K V) {k : Nat} (hk : k < 8) : V (28 + k) ≤ V 0 := (h.2.2.2.2.2.2.1 k hk).2.2.1
theorem VB.dead (h : VB K V) {k : Nat} (hk : k < 8) (h2 : V 2 ≤ k) : V (12 + k) = 0 ∧ V (20 + k) = 0 ∧ V (28 + k) = 0 := (h.2.2.2.2.2.2.1 k hk).2.2.2 h2
theorem VB.rec (h : VB K V) {k : Nat} (hk : k < 3) : V (36 + k) ≤ 60 := (h.2.2.2.2.2.2.2.1 k hk).1
theorem VB.hol (h : VB K V) {k : Nat} (hk : k < 3) : V (39 + k) < 8 := (h.2.2.2.2.2.2.2.1 k hk).2
theorem VB.wish (h : VB K V) {k : Nat} (hk : k < 6) : V (42 + k) ≤ 60 := h.2.2.2.2.2.2.2.2 k hk
end VBS
end Pq10
section Pq11
def kindN (len : Nat) : Nat := if len < 30 then 0 else if len < 60 then 1 else 2
def perG : Nat → Nat → Nat → Nat
  | 0, r, _ => r
  | n + 1, r, L => if (r + 1) * (r + 1) ≤ 36 * L then perG n (r + 1) L else r
/-- the greatest number whose square isn't greater than 36 L -/
def perN (L : Nat) : Nat := perG 60 0 L
theorem perG_step {r L : Nat} (hr : r < 60) (h : (r + 1) * (r + 1) ≤ 36 * L) : perG (60 - r) r L = perG (60 - (r + 1)) (r + 1) L := by
  have e : 60 - r = (60 - (r + 1)) + 1 := by omega
  rw [e]
  show (if (r + 1) * (r + 1) ≤ 36 * L then perG (60 - (r + 1)) (r + 1) L else r) = _
  rw [if_pos h]
/-- the amplitude behind a swing -/
def swN (fr a : Nat) : Nat := a - max 1 (a * fr / 100)
theorem inB_isK {v : Int32} {c : Nat} (hc : c < 2 ^ 31) : inB v (nI 0) (nI c - nI 1) = isK v c := by
  have e : (nI c - nI 1).toInt = (c : Int) - 1 := by
    rcases Nat.eq_zero_or_pos c with rfl | h
    · decide
    · rw [pk_sub h, nI_toInt (by omega)]; omega
  unfold inB isK
  have h1 : decide (nI 0 ≤ v) = decide (0 ≤ v.toInt) := decide_eq_decide.mpr (by rw [Int32.le_iff_toInt_le, nI_toInt (by decide)]; exact Iff.rfl)
  have h2 : decide (v ≤ nI c - nI 1) = decide (v.toInt < (c : Int)) := decide_eq_decide.mpr (by rw [Int32.le_iff_toInt_le, e]; omega)
  rw [h1, h2]
  exact (Bool.decide_and _ _).symm
end Pq11
section Pq12
/-! what the changes do to the gymnasium's numbers -/
def opAdd (V : Nat → Nat) (a : Int32) : Nat × Nat × (Nat → Nat) :=
  if inB a (nI 1) (nI 99) = false then (1, 0, V) else if V 2 = 8 then (2, 0, V) else (0, V 2, va_up (va_up V (4 + V 2) a.toNatClampNeg) 2 (V 2 + 1))
def pushV (V : Nat → Nat) (k a : Nat) : Nat → Nat :=
  let W := va_up (if V (12 + k) = 0 then va_up V (20 + k) (V 0) else V) (12 + k) a
  if V (36 + kindN (V (4 + k))) < a then va_up (va_up W (36 + kindN (V (4 + k))) a) (39 + kindN (V (4 + k))) k else W
def opPush (V : Nat → Nat) (p d : Int32) : Nat × Nat × (Nat → Nat) :=
  if isK p (V 2) = false then (1, 0, V) else if inB d (nI 1) (nI 60) = false then (2, 0, V) else
  if 60 < V (12 + p.toNatClampNeg) + d.toNatClampNeg then (3, 0, V) else (0, V (12 + p.toNatClampNeg) + d.toNatClampNeg, pushV V p.toNatClampNeg (V (12 + p.toNatClampNeg) + d.toNatClampNeg))
def opCatch (V : Nat → Nat) (p : Int32) : Nat × Nat × (Nat → Nat) :=
  if isK p (V 2) = false then (1, 0, V) else if V (12 + p.toNatClampNeg) = 0 then (2, 0, V) else (0, V (12 + p.toNatClampNeg), va_up V (12 + p.toNatClampNeg) 0)
def opFric (V : Nat → Nat) (a : Int32) : Nat × Nat × (Nat → Nat) :=
  if inB a (nI 0) (nI 30) = false then (1, 0, V) else (0, V 1, va_up V 1 a.toNatClampNeg)
/-- does k swing in the next tick -/
def swg (V : Nat → Nat) (k : Nat) : Bool := decide (V (12 + k) ≠ 0 ∧ (V 0 + 1 - V (20 + k)) % perN (V (4 + k)) = 0)
/-- the next tick, seen by the pendulums below u -/
def tkV (V : Nat → Nat) (u : Nat) : Nat → Nat := fun j =>
  if j = 0 then V 0 + 1 else if 12 ≤ j ∧ j < 12 + u ∧ swg V (j - 12) = true then swN (V 1) (V j) else if 28 ≤ j ∧ j < 28 + u ∧ swg V (j - 28) = true then V j + 1 else V j
def tkC (V : Nat → Nat) : Nat → Nat
  | 0 => 0
  | u + 1 => tkC V u + (if swg V u = true then 1 else 0)
def tks : Nat → (Nat → Nat) → (Nat → Nat)
  | 0, V => V
  | t + 1, V => tks t (tkV V (V 2))
def tkcs : Nat → (Nat → Nat) → Nat
  | 0, _ => 0
  | t + 1, V => tkC V (V 2) + tkcs t (tkV V (V 2))
def opPass (V : Nat → Nat) (t : Int32) : Nat × Nat × (Nat → Nat) :=
  if inB t (nI 1) (nI 500) = false then (1, 0, V) else (0, tkcs t.toNatClampNeg V, tks t.toNatClampNeg V)
def opLeg (V : Nat → Nat) (a : Int32) : Nat × Nat × (Nat → Nat) :=
  if inB a (nI 1) (nI 60) = false then (1, 0, V) else if V 3 = 6 then (2, 0, V) else (0, V 3 + 1, va_up (va_up V (42 + V 3) a.toNatClampNeg) 3 (V 3 + 1))
/-- the wishes behind k move up by one, as far as u -/
def cutV (V : Nat → Nat) (k u : Nat) : Nat → Nat := fun j => if 42 + k ≤ j ∧ j < 42 + u then V (j + 1) else V j
def opCut (V : Nat → Nat) (p : Int32) : Nat × Nat × (Nat → Nat) :=
  if isK p (V 3) = false then (1, 0, V) else (0, V (42 + p.toNatClampNeg), va_up (cutV V p.toNatClampNeg 5) 3 (V 3 - 1))
theorem nIc {k : Nat} (h : k < 2 ^ 31) : (nI k).toNatClampNeg = k := nI_clamp h
theorem tkV_0 {V : Nat → Nat} : tkV V 0 = va_up V 0 (V 0 + 1) := by
  funext j
  by_cases hj : j = 0
  · subst hj; rw [up_self]; rfl
  · rw [up_ne hj]
    unfold tkV
    rw [if_neg hj, if_neg (by omega), if_neg (by omega)]
theorem tkV_t {V : Nat → Nat} {u : Nat} (hu : u < 8) (h : swg V u = true) : tkV V (u + 1) = va_up (va_up (tkV V u) (12 + u) (swN (V 1) (V (12 + u)))) (28 + u) (V (28 + u) + 1) := by
  funext j
  by_cases h1 : j = 28 + u
  · subst h1
    rw [up_self]
    unfold tkV
    rw [if_neg (by omega), if_neg (by omega), if_pos ⟨by omega, by omega, by rw [show 28 + u - 28 = u by omega]; exact h⟩]
  · rw [up_ne h1]
    by_cases h2 : j = 12 + u
    · subst h2
      rw [up_self]
      unfold tkV
      rw [if_neg (by omega), if_pos ⟨by omega, by omega, by rw [show 12 + u - 12 = u by omega]; exact h⟩]
    · rw [up_ne h2]
      unfold tkV
      by_cases h0 : j = 0
      · rw [if_pos h0, if_pos h0]
      · rw [if_neg h0, if_neg h0]
        have e1 : (12 ≤ j ∧ j < 12 + (u + 1) ∧ swg V (j - 12) = true) ↔ (12 ≤ j ∧ j < 12 + u ∧ swg V (j - 12) = true) := ⟨fun q => ⟨q.1, by omega, q.2.2⟩, fun q => ⟨q.1, by omega, q.2.2⟩⟩
        have e2 : (28 ≤ j ∧ j < 28 + (u + 1) ∧ swg V (j - 28) = true) ↔ (28 ≤ j ∧ j < 28 + u ∧ swg V (j - 28) = true) := ⟨fun q => ⟨q.1, by omega, q.2.2⟩, fun q => ⟨q.1, by omega, q.2.2⟩⟩
        simp only [e1, e2]
theorem tkV_f {V : Nat → Nat} {u : Nat} (h : swg V u = false) : tkV V (u + 1) = tkV V u := by
  funext j
  unfold tkV
  have e1 : (12 ≤ j ∧ j < 12 + (u + 1) ∧ swg V (j - 12) = true) ↔ (12 ≤ j ∧ j < 12 + u ∧ swg V (j - 12) = true) := ⟨fun q => ⟨q.1, by
    rcases Nat.lt_or_ge j (12 + u) with z | z
    · exact z
    · have e : j - 12 = u := by omega
      rw [e, h] at q; exact absurd q.2.2 (by decide), q.2.2⟩, fun q => ⟨q.1, by omega, q.2.2⟩⟩
  have e2 : (28 ≤ j ∧ j < 28 + (u + 1) ∧ swg V (j - 28) = true) ↔ (28 ≤ j ∧ j < 28 + u ∧ swg V (j - 28) = true) := ⟨fun q => ⟨q.1, by
    rcases Nat.lt_or_ge j (28 + u) with z | z
    · exact z
    · have e : j - 28 = u := by omega
      rw [e, h] at q; exact absurd q.2.2 (by decide), q.2.2⟩, fun q => ⟨q.1, by omega, q.2.2⟩⟩
  simp only [e1, e2]
theorem swN_le {fr a : Nat} : swN fr a ≤ a := Nat.sub_le _ _
theorem per_pos {L : Nat} (h : 1 ≤ L) : 1 ≤ perN L := by
  have h1 : (0 + 1) * (0 + 1) ≤ 36 * L := by omega
  have h2 := perG_step (r := 0) (by decide) h1
  have key : ∀ n r, r ≤ perG n r L := by
    intro n
    induction n with
    | zero => intro r; exact Nat.le_refl _
    | succ n ih =>
      intro r
      unfold perG
      split
      · exact Nat.le_trans (Nat.le_succ r) (ih (r + 1))
      · exact Nat.le_refl _
  have h3 := key (60 - (0 + 1)) (0 + 1)
  unfold perN
  rw [show (60 : Nat) = 60 - 0 from rfl, h2]
  exact h3
theorem per_le {L : Nat} (hL : L ≤ 99) : perN L ≤ 59 := by
  have key : ∀ L, L < 100 → perN L ≤ 59 := by decide +kernel
  exact key L (by omega)
/-- the bounds hold behind a tick -/
theorem VB.tick {K : Nat} {V : Nat → Nat} (h : VB K V) (hK : K + 1 < 16000000) {u : Nat} (hu : u ≤ V 2) : VB (K + 1) (tkV V u) := by
  have h0 := h.now
  have hc := h.cnt
  have e0 : tkV V u 0 = V 0 + 1 := rfl
  have keep : ∀ j, j ≠ 0 → (j < 12 ∨ 12 + u ≤ j) → (j < 28 ∨ 28 + u ≤ j) → tkV V u j = V j := fun j hj h1 h2 => by
    unfold tkV
    rw [if_neg hj, if_neg (by omega), if_neg (by omega)]
  have amp : ∀ j, 12 ≤ j → j < 20 → tkV V u j ≤ V j := fun j h1 h2 => by
    unfold tkV
    rw [if_neg (by omega)]
    split
    · exact swN_le
    · rw [if_neg (by omega)]; exact Nat.le_refl _
  have sw : ∀ j, 28 ≤ j → j < 36 → tkV V u j ≤ V j + 1 := fun j h1 h2 => by
    unfold tkV
    rw [if_neg (by omega), if_neg (by omega)]
    split
    · exact Nat.le_refl _
    · exact Nat.le_succ _
  refine ⟨by omega, hK, ?_, ?_, ?_, fun k hk => ?_, fun k hk => ?_, fun k hk => ?_, fun k hk => ?_⟩
  · rw [keep 1 (by omega) (by omega) (by omega)]; exact h.fric
  · rw [keep 2 (by omega) (by omega) (by omega)]; exact h.cnt
  · rw [keep 3 (by omega) (by omega) (by omega)]; exact h.legs
  · rw [keep (4 + k) (by omega) (by omega) (by omega), keep 2 (by omega) (by omega) (by omega)]; exact ⟨h.len hk, fun z => h.len1 z⟩
  · rw [keep (20 + k) (by omega) (by omega) (by omega), keep 2 (by omega) (by omega) (by omega), e0]
    have ha := amp (12 + k) (by omega) (by omega)
    have hs := sw (28 + k) (by omega) (by omega)
    have h1 := h.amp hk
    have h2 := h.start hk
    have h3 := h.sw hk
    refine ⟨by omega, by omega, by omega, fun z => ?_⟩
    rw [keep (12 + k) (by omega) (by omega) (by omega), keep (28 + k) (by omega) (by omega) (by omega)]
    exact h.dead hk z
  · rw [keep (36 + k) (by omega) (by omega) (by omega), keep (39 + k) (by omega) (by omega) (by omega)]; exact ⟨h.rec hk, h.hol hk⟩
  · rw [keep (42 + k) (by omega) (by omega) (by omega)]; exact h.wish hk
theorem VB.mono {K K' : Nat} {V : Nat → Nat} (h : VB K V) (h1 : K ≤ K') (h2 : K' < 16000000) : VB K' V := ⟨Nat.le_trans h.1 h1, h2, h.2.2⟩
theorem VB.tks {K : Nat} {V : Nat → Nat} : ∀ (t : Nat) {K : Nat} {V : Nat → Nat}, VB K V → K + t < 16000000 → VB (K + t) (tks t V) := by
  intro t
  induction t with
  | zero => intro K V h _; exact h
  | succ t ih =>
    intro K V h hK
    have := ih (h.tick (by omega) (Nat.le_refl _)) (by omega)
    rw [show K + 1 + t = K + (t + 1) by omega] at this
    exact this
end Pq12
section Pq14
theorem kindN_lt (len : Nat) : kindN len < 3 := by unfold kindN; split <;> (try split) <;> decide
theorem tk_keep {V : Nat → Nat} {u j : Nat} (h0 : j ≠ 0) (h1 : j < 12 ∨ 12 + u ≤ j) (h2 : j < 28 ∨ 28 + u ≤ j) : tkV V u j = V j := by
  unfold tkV
  rw [if_neg h0, if_neg (by omega), if_neg (by omega)]
theorem tk_1 {V : Nat → Nat} {u : Nat} : tkV V u 1 = V 1 := tk_keep (by decide) (Or.inl (by decide)) (Or.inl (by decide))
theorem tk_2 {V : Nat → Nat} {u : Nat} : tkV V u 2 = V 2 := tk_keep (by decide) (Or.inl (by decide)) (Or.inl (by decide))
theorem tk_4 {V : Nat → Nat} {u : Nat} (h : u < 8) : tkV V u (4 + u) = V (4 + u) := tk_keep (by omega) (by omega) (by omega)
theorem tk_12 {V : Nat → Nat} {u : Nat} (h : u < 8) : tkV V u (12 + u) = V (12 + u) := tk_keep (by omega) (by omega) (by omega)
theorem tk_20 {V : Nat → Nat} {u : Nat} (h : u < 8) : tkV V u (20 + u) = V (20 + u) := by
  unfold tkV
  rw [if_neg (by omega), if_neg (by omega), if_neg (by omega)]
theorem tk_28 {V : Nat → Nat} {u : Nat} (h : u < 8) : tkV V u (28 + u) = V (28 + u) := tk_keep (by omega) (by omega) (by omega)
theorem tkC_le (V : Nat → Nat) : ∀ u, tkC V u ≤ u := by
  intro u
  induction u with
  | zero => exact Nat.le_refl _
  | succ u ih => unfold tkC; split <;> omega
end Pq14
section Pq16
theorem up_A {α : Type} {A : Nat → α} {j : Nat} : va_up A j (A j) = A := by
  funext i
  by_cases h : i = j
  · subst h; rw [up_self]
  · rw [up_ne h]
end Pq16
section Pq17
/-! the reference's whole state: numbers V, c earlier ones Hs, a saved one, the typed text, what went wrong, the card -/
abbrev SG : Type := (Nat → Nat) × (Nat × (Nat → Nat → Nat)) × (Bool × (Nat → Nat)) × (Nat × (Nat → Nat)) × (Int32 × Int32) × (Nat × (Nat → Nat))
def HRep (A2 : Nat → Int32) (c : Nat) (Hs : Nat → Nat → Nat) : Prop := ∀ j, j < c → ∀ i, i < 48 → A2 (48 * j + i) = nI (Hs j i)
/-- what of the state isn't in the object's fields -/
def SB (K : Nat) (s : SG) : Prop := VB K s.1 ∧ s.2.1.1 ≤ 8 ∧ (∀ j, j < s.2.1.1 → VB K (s.2.1.2 j)) ∧ (s.2.2.1.1 = true → VB K s.2.2.1.2) ∧ s.2.2.2.1.1 ≤ 60 ∧ (∀ i, i < s.2.2.2.1.1 → 32 ≤ s.2.2.2.1.2 i ∧ s.2.2.2.1.2 i ≤ 126) ∧ s.2.2.2.2.2.1 ≤ 60 ∧ ∀ i, i < s.2.2.2.2.2.1 → s.2.2.2.2.2.2 i < 128
def MR (I : Nat → Int32) (A : Nat → Nat → Int32) (s : SG) : Prop :=
  Mok A s.1 ∧ (I 3 = nI s.2.1.1 ∧ HRep (A 2) s.2.1.1 s.2.1.2) ∧ (I 5 = bI s.2.2.1.1 ∧ (s.2.2.1.1 = true → ∀ i, i < 48 → A 3 i = nI (s.2.2.1.2 i))) ∧
  (I 7 = nI s.2.2.2.1.1 ∧ ∀ i, i < s.2.2.2.1.1 → A 4 i = nI (s.2.2.2.1.2 i)) ∧ (I 8 = s.2.2.2.2.1.1 ∧ I 9 = s.2.2.2.2.1.2) ∧ (I 11 = nI s.2.2.2.2.2.1 ∧ ∀ i, i < s.2.2.2.2.2.1 → A 5 i = nI (s.2.2.2.2.2.2 i))
/-- one more earlier state, the eldest of nine forgotten -/
def pushH (c : Nat) (Hs : Nat → Nat → Nat) (B : Nat → Nat) : Nat × (Nat → Nat → Nat) := if c = 8 then (8, va_up (fun j => Hs (j + 1)) 7 B) else (c + 1, va_up Hs c B)
def opS (s : SG) (q : Nat × Nat × (Nat → Nat)) : SG := if q.1 = 0 then (q.2.2, pushH s.2.1.1 s.2.1.2 s.1, s.2.2) else s
end Pq17
section Pq18
theorem opAdd_4 (V : Nat → Nat) (a : Int32) : (opAdd V a).1 < 4 := by
  unfold opAdd
  (repeat' split) <;> exact Nat.le_of_ble_eq_true rfl
theorem opPush_4 (V : Nat → Nat) (a d : Int32) : (opPush V a d).1 < 4 := by
  unfold opPush
  (repeat' split) <;> exact Nat.le_of_ble_eq_true rfl
theorem opCatch_4 (V : Nat → Nat) (a : Int32) : (opCatch V a).1 < 4 := by
  unfold opCatch
  (repeat' split) <;> exact Nat.le_of_ble_eq_true rfl
theorem opFric_4 (V : Nat → Nat) (a : Int32) : (opFric V a).1 < 4 := by
  unfold opFric
  (repeat' split) <;> exact Nat.le_of_ble_eq_true rfl
theorem opPass_4 (V : Nat → Nat) (a : Int32) : (opPass V a).1 < 4 := by
  unfold opPass
  (repeat' split) <;> exact Nat.le_of_ble_eq_true rfl
theorem opLeg_4 (V : Nat → Nat) (a : Int32) : (opLeg V a).1 < 4 := by
  unfold opLeg
  (repeat' split) <;> exact Nat.le_of_ble_eq_true rfl
theorem opCut_4 (V : Nat → Nat) (a : Int32) : (opCut V a).1 < 4 := by
  unfold opCut
  (repeat' split) <;> exact Nat.le_of_ble_eq_true rfl
end Pq18
section Pq19
/-! what is asked of the numbers: (what is thrown, the answer) -/
def qNum (V : Nat → Nat) (a : Nat) (v : Int32) : Nat × Nat := if isK v (V 2) = true then (0, V (a + v.toNatClampNeg)) else (1, 0)
def qClass (V : Nat → Nat) (v : Int32) : Nat × Nat := if isK v (V 2) = true then (0, kindN (V (4 + v.toNatClampNeg))) else (1, 0)
def qStart (V : Nat → Nat) (v : Int32) : Nat × Nat := if isK v (V 2) = true then (if V (12 + v.toNatClampNeg) = 0 then (2, 0) else (0, V (20 + v.toNatClampNeg))) else (1, 0)
def qPeriod (V : Nat → Nat) (v : Int32) : Nat × Nat := if isK v (V 2) = true then (0, perN (V (4 + v.toNatClampNeg))) else (1, 0)
def qWish (V : Nat → Nat) (v : Int32) : Nat × Nat := if isK v (V 3) = true then (0, V (42 + v.toNatClampNeg)) else (1, 0)
def whyN (V : Nat → Nat) (v : Int32) : Nat := if inB v (nI 0) (nI 2) = true then (if V (36 + v.toNatClampNeg) = 0 then 2 else 0) else 1
def qRec (V : Nat → Nat) (a : Nat) (v : Int32) : Nat × Nat := if whyN V v = 0 then (0, V (a + v.toNatClampNeg)) else (whyN V v, 0)
def aheadN (V : Nat → Nat) (p k : Nat) : Bool := decide (V (12 + k) < V (12 + p) ∨ (V (12 + p) = V (12 + k) ∧ (V (28 + k) < V (28 + p) ∨ (V (28 + p) = V (28 + k) ∧ p < k))))
def rkC (V : Nat → Nat) (k : Nat) : Nat → Nat
  | 0 => 0
  | u + 1 => rkC V k u + (if aheadN V u k = true then 1 else 0)
def rankN (V : Nat → Nat) (k : Nat) : Nat := rkC V k (V 2)
def rkF (V : Nat → Nat) (r : Int32) : Nat → Nat → Nat × Nat
  | 0, _ => (1, 0)
  | n + 1, k => if nI (rankN V k) = r then (0, k) else rkF V r n (k + 1)
def qRank (V : Nat → Nat) (r : Int32) : Nat × Nat := rkF V r (V 2) 0
theorem rkF_yes {V : Nat → Nat} {r : Int32} {n k : Nat} (h : nI (rankN V k) = r) : rkF V r (n + 1) k = (0, k) := by unfold rkF; rw [if_pos h]
theorem rkF_no {V : Nat → Nat} {r : Int32} {n k : Nat} (h : ¬ nI (rankN V k) = r) : rkF V r (n + 1) k = rkF V r n (k + 1) := by
  show (if nI (rankN V k) = r then (0, k) else rkF V r n (k + 1)) = _
  rw [if_neg h]
end Pq19
section Pq20
theorem swN_lt {fr a : Nat} (h : 1 ≤ a) : swN fr a < a := by
  unfold swN
  have : 1 ≤ max 1 (a * fr / 100) := Nat.le_max_left _ _
  omega
theorem swN_0 {fr : Nat} : swN fr 0 = 0 := Nat.zero_sub _
def swL (fr : Nat) : Nat → Nat → Nat
  | 0, _ => 0
  | n + 1, a => if a = 0 then 0 else 1 + swL fr n (swN fr a)
/-- the swings to rest -/
def leftN (fr a : Nat) : Nat := swL fr a a
theorem swL_st {fr : Nat} : ∀ (n m a : Nat), a ≤ n → a ≤ m → swL fr n a = swL fr m a := by
  intro n
  induction n with
  | zero => intro m a h _; have : a = 0 := by omega
            subst this; cases m <;> rfl
  | succ n ih =>
    intro m a h1 h2
    cases m with
    | zero => have : a = 0 := by omega
              subst this; rfl
    | succ m =>
      unfold swL
      by_cases h : a = 0
      · rw [if_pos h, if_pos h]
      · rw [if_neg h, if_neg h, ih m _ (by have := swN_lt (fr := fr) (a := a) (by omega); omega) (by have := swN_lt (fr := fr) (a := a) (by omega); omega)]
theorem left_0 {fr : Nat} : leftN fr 0 = 0 := rfl
theorem left_s {fr a : Nat} (h : 1 ≤ a) : leftN fr a = 1 + leftN fr (swN fr a) := by
  have h1 := swN_lt (fr := fr) h
  obtain ⟨b, rfl⟩ : ∃ b, a = b + 1 := ⟨a - 1, by omega⟩
  show (if b + 1 = 0 then 0 else 1 + swL fr b (swN fr (b + 1))) = _
  rw [if_neg (by omega), swL_st b (swN fr (b + 1)) _ (by omega) (Nat.le_refl _)]
  rfl
theorem left_le {fr : Nat} : ∀ a, leftN fr a ≤ a := by
  intro a
  induction a using Nat.strongRecOn with
  | ind a ih =>
    rcases Nat.eq_zero_or_pos a with rfl | h
    · exact Nat.le_refl _
    · rw [left_s h]
      have := ih _ (swN_lt (fr := fr) h)
      have := swN_lt (fr := fr) h
      omega
def swIt (fr : Nat) : Nat → Nat → Nat
  | 0, a => a
  | n + 1, a => swIt fr n (swN fr a)
theorem swIt_0 {fr : Nat} : ∀ n, swIt fr n 0 = 0 := by
  intro n
  induction n with
  | zero => rfl
  | succ n ih => show swIt fr n (swN fr 0) = 0; rw [swN_0]; exact ih
def untilN (V : Nat → Nat) (k t : Nat) : Nat := (t - V (20 + k)) / perN (V (4 + k))
def qLeft (V : Nat → Nat) (v : Int32) : Nat × Nat := if isK v (V 2) = true then (0, leftN (V 1) (V (12 + v.toNatClampNeg))) else (1, 0)
def qRest (V : Nat → Nat) (v : Int32) : Nat × Nat := if isK v (V 2) = true then (if V (12 + v.toNatClampNeg) = 0 then (2, 0) else (0, V (20 + v.toNatClampNeg) + (untilN V v.toNatClampNeg (V 0) + leftN (V 1) (V (12 + v.toNatClampNeg))) * perN (V (4 + v.toNatClampNeg)))) else (1, 0)
def afterN (V : Nat → Nat) (k t : Nat) : Nat := if V (12 + k) = 0 then 0 else swIt (V 1) (untilN V k (V 0 + t) - untilN V k (V 0)) (V (12 + k))
def qAfter (V : Nat → Nat) (v t : Int32) : Nat × Nat := if isK v (V 2) = true then (if inB t (nI 0) (nI 500) = true then (0, afterN V v.toNatClampNeg t.toNatClampNeg) else (2, 0)) else (1, 0)
def cyN (p q : Nat) : Nat := p / Nat.gcd p q * q
theorem cy_le {p q : Nat} (hp : p ≤ 59) (hq : q ≤ 59) : cyN p q ≤ 3481 := by
  unfold cyN
  have h1 : p / Nat.gcd p q ≤ p := Nat.div_le_self _ _
  exact Nat.le_trans (Nat.mul_le_mul (Nat.le_trans h1 hp) hq) (by decide)
/-- the first of n ticks from t on in which both swing -/
def mtF (s1 p1 s2 p2 : Nat) : Nat → Nat → Option Nat
  | 0, _ => none
  | n + 1, t => if (t - s1) % p1 = 0 ∧ (t - s2) % p2 = 0 then some t else mtF s1 p1 s2 p2 n (t + 1)
def mtV (V : Nat → Nat) (a c : Nat) : Option Nat := mtF (V (20 + a)) (perN (V (4 + a))) (V (20 + c)) (perN (V (4 + c))) (cyN (perN (V (4 + a))) (perN (V (4 + c)))) (V 0 + 1)
def mtI (r : Option Nat) : Int32 := match r with
  | some t => nI t
  | none => -1
theorem mtF_lt {s1 p1 s2 p2 : Nat} : ∀ n t x, mtF s1 p1 s2 p2 n t = some x → x < t + n := by
  intro n
  induction n with
  | zero => intro t x h; cases h
  | succ n ih =>
    intro t x h
    unfold mtF at h
    split at h
    · cases h; omega
    · have := ih _ _ h; omega
def qMeet (V : Nat → Nat) (v w : Int32) : Nat × Nat := if isK v (V 2) = true ∧ isK w (V 2) = true then
    (if V (12 + v.toNatClampNeg) = 0 ∨ V (12 + w.toNatClampNeg) = 0 then (2, 0) else match mtV V v.toNatClampNeg w.toNatClampNeg with
      | some t => (0, t)
      | none => (3, 0)) else (1, 0)
def qCycle (V : Nat → Nat) (v w : Int32) : Nat × Nat := if isK v (V 2) = true ∧ isK w (V 2) = true then (0, cyN (perN (V (4 + v.toNatClampNeg))) (perN (V (4 + w.toNatClampNeg)))) else (1, 0)
def apart (a b : Nat) : Nat := (a - b) + (b - a)
theorem abs_nI {a b : Nat} (ha : a < 2 ^ 30) (hb : b < 2 ^ 30) : (if nI a - nI b < 0 then -(nI a - nI b) else nI a - nI b) = nI (apart a b) := by
  have h1 := pk_sub_toInt ha hb
  have h2 := pk_sub_toInt hb ha
  unfold apart
  by_cases h : b ≤ a
  · rw [if_neg (by rw [Int32.lt_iff_toInt_lt, h1, Int32.toInt_zero]; omega), pk_sub h, show b - a = 0 by omega, Nat.add_zero]
  · rw [if_pos (by rw [Int32.lt_iff_toInt_lt, h1, Int32.toInt_zero]; omega), Int32.neg_sub, pk_sub (by omega), show a - b = 0 by omega, Nat.zero_add]
/-- do they meet -/
def pairB (V : Nat → Nat) (a c : Nat) : Bool := decide (V (12 + a) ≠ 0 ∧ V (12 + c) ≠ 0 ∧ apart (V (20 + a)) (V (20 + c)) % Nat.gcd (perN (V (4 + a))) (perN (V (4 + c))) = 0)
def prI (V : Nat → Nat) (c : Nat) : Nat → Nat
  | 0 => 0
  | u + 1 => prI V c u + (if pairB V u c = true then 1 else 0)
def prO (V : Nat → Nat) : Nat → Nat
  | 0 => 0
  | u + 1 => prO V u + prI V u u
theorem mtF_yes {s1 p1 s2 p2 n t : Nat} (h1 : (t - s1) % p1 = 0) (h2 : (t - s2) % p2 = 0) : mtF s1 p1 s2 p2 (n + 1) t = some t := by
  unfold mtF
  rw [if_pos ⟨h1, h2⟩]
theorem mtF_no {s1 p1 s2 p2 n t : Nat} (h : (t - s1) % p1 ≠ 0 ∨ (t - s2) % p2 ≠ 0) : mtF s1 p1 s2 p2 (n + 1) t = mtF s1 p1 s2 p2 n (t + 1) := by
  show (if (t - s1) % p1 = 0 ∧ (t - s2) % p2 = 0 then some t else mtF s1 p1 s2 p2 n (t + 1)) = _
  rw [if_neg (by omega)]
theorem nI_m1 {t : Nat} (h : t < 2 ^ 31) (e : nI t = -1) : False := by
  have := nI_toInt h
  rw [e] at this
  exact absurd this (by have : (-1 : Int32).toInt = -1 := by decide
                        omega)
end Pq20
section Pq21
/-! sets of pendulums as numbers below 256 -/
def bitN (s k : Nat) : Nat := s / 2 ^ k % 2
theorem shr_n {a k : Nat} (ha : a < 2 ^ 31) (hk : k < 9) : nI a >>> (nI k &&& 31) = nI (a / 2 ^ k) := by
  refine pk_shrN ha _ k ?_
  have key : ∀ k, k < 9 → ((nI k &&& 31).toBitVec.smod 32).toNat = k := by decide +kernel
  exact key k hk
theorem shl_n {k : Nat} (hk : k < 9) : nI 1 <<< (nI k &&& 31) = nI (2 ^ k) := by
  have key : ∀ k, k < 9 → nI 1 <<< (nI k &&& 31) = nI (2 ^ k) := by decide +kernel
  exact key k hk
theorem or_n {a k : Nat} (ha : a < 256) (hk : k < 8) : nI a ||| nI (2 ^ k) = nI (a ||| 2 ^ k) := by
  have key : ∀ k, k < 8 → ∀ a, a < 256 → nI a ||| nI (2 ^ k) = nI (a ||| 2 ^ k) := by decide +kernel
  exact key k hk a ha
theorem or_lt {a k : Nat} (ha : a < 256) (hk : k < 8) : a ||| 2 ^ k < 256 := by
  have key : ∀ k, k < 8 → ∀ a, a < 256 → a ||| 2 ^ k < 256 := by decide +kernel
  exact key k hk a ha
theorem or_gt {a k : Nat} (ha : a < 256) (hk : k < 8) (h : bitN a k ≠ 1) : a < a ||| 2 ^ k := by
  have key : ∀ k, k < 8 → ∀ a, a < 256 → bitN a k ≠ 1 → a < a ||| 2 ^ k := by decide +kernel
  exact key k hk a ha h
theorem bit_lt (s k : Nat) : bitN s k < 2 := Nat.mod_lt _ (by decide)
theorem pow_le {k : Nat} (hk : k ≤ 8) : 2 ^ k ≤ 256 := Nat.pow_le_pow_right (by decide) hk
def memC (s : Nat) : Nat → Nat
  | 0 => 0
  | u + 1 => memC s u + bitN s u
/-- how many are in a set -/
def memN (s : Nat) : Nat := memC s 8
theorem memC_le (s : Nat) : ∀ u, memC s u ≤ u := by
  intro u
  induction u with
  | zero => exact Nat.le_refl _
  | succ u ih => unfold memC; have := bit_lt s u; omega
def togC (V : Nat → Nat) (s : Nat) : Nat → Nat
  | 0 => 0
  | u + 1 => togC V s u + (if bitN s u = 1 then 168 / perN (V (4 + u)) else 0)
def togN (V : Nat → Nat) (s : Nat) : Nat := togC V s (V 2)
theorem tog_le (V : Nat → Nat) (s : Nat) : ∀ u, togC V s u ≤ 168 * u := by
  intro u
  induction u with
  | zero => exact Nat.le_refl _
  | succ u ih =>
    unfold togC
    have : 168 / perN (V (4 + u)) ≤ 168 := Nat.div_le_self _ _
    split <;> omega
def fewG (V : Nat → Nat) (t : Nat) : Nat → Nat
  | 0 => 9
  | s + 1 => if t ≤ togN V s ∧ memN s < fewG V t s then memN s else fewG V t s
theorem few_s {V : Nat → Nat} {t s : Nat} : fewG V t (s + 1) = if t ≤ togN V s ∧ memN s < fewG V t s then memN s else fewG V t s := rfl
def qFew (V : Nat → Nat) (v : Int32) : Nat × Nat := if inB v (nI 1) (nI 999) = true then
  (if fewG V v.toNatClampNeg (2 ^ V 2) ≤ 8 then (0, fewG V v.toNatClampNeg (2 ^ V 2)) else (2, 0)) else (1, 0)
theorem few_le (V : Nat → Nat) (t : Nat) : ∀ s, fewG V t s ≤ 9 := by
  intro s
  induction s with
  | zero => exact Nat.le_refl _
  | succ s ih =>
    unfold fewG
    have : memN s ≤ 8 := memC_le s 8
    split <;> omega
def exaG (V : Nat → Nat) (t : Nat) : Nat → Nat
  | 0 => 0
  | s + 1 => exaG V t s + (if togN V s = t then 1 else 0)
theorem exa_s {V : Nat → Nat} {t s : Nat} : exaG V t (s + 1) = exaG V t s + (if togN V s = t then 1 else 0) := rfl
def qExa (V : Nat → Nat) (v : Int32) : Nat × Nat := if inB v (nI 0) (nI 999) = true then (0, exaG V v.toNatClampNeg (2 ^ V 2)) else (1, 0)
theorem exa_le (V : Nat → Nat) (t : Nat) : ∀ s, exaG V t s ≤ s := by
  intro s
  induction s with
  | zero => exact Nat.le_refl _
  | succ s ih => unfold exaG; split <;> omega
def sumA (V : Nat → Nat) : Nat → Nat
  | 0 => 0
  | u + 1 => sumA V u + V (12 + u)
def cntA (V : Nat → Nat) : Nat → Nat
  | 0 => 0
  | u + 1 => cntA V u + (if V (12 + u) = 0 then 0 else 1)
theorem cntA_le (V : Nat → Nat) : ∀ u, cntA V u ≤ u := by
  intro u
  induction u with
  | zero => exact Nat.le_refl _
  | succ u ih => unfold cntA; split <;> omega
theorem prI_le (V : Nat → Nat) (c : Nat) : ∀ u, prI V c u ≤ u := by
  intro u
  induction u with
  | zero => exact Nat.le_refl _
  | succ u ih => unfold prI; split <;> omega
theorem prO_le (V : Nat → Nat) (c : Nat) (h8 : V 2 ≤ 8) (hc : c ≤ V 2) : prO V c ≤ 64 := by
  have key : ∀ u, u ≤ 8 → prO V u ≤ 8 * u := by
    intro u
    induction u with
    | zero => intro _; exact Nat.le_refl _
    | succ u ih => intro h; unfold prO; have := ih (by omega); have := prI_le V u u; omega
  have := key c (by omega)
  omega
section BR
variable {l : Launch} {G : GT} {M : MT} {fr lo mc ms : Nat} {Post : PT} {n0 nc ns pc : Nat} {L : List (Nat × Value)} {S : List Value} {f : HT} {n : Nat}
theorem aw_shr {a k : Nat} (ha : a < 2 ^ 31) (hk : k < 9) (hdg : decode M.2.1 pc = .ok (.ishr, 1)) (kk : AW l G M fr lo mc ms Post n0 nc ns (pc + 1) L (.int (nI (a / 2 ^ k)) :: S) f n) : AW l G M fr lo mc ms Post n0 nc ns pc L (.int (nI k) :: .int (nI a) :: S) f n := aw_ishr hdg (by rw [shr_n ha hk]; exact kk)
theorem aw_shl {k : Nat} (hk : k < 9) (hdg : decode M.2.1 pc = .ok (.ishl, 1)) (kk : 2 ^ k ≤ 256 → AW l G M fr lo mc ms Post n0 nc ns (pc + 1) L (.int (nI (2 ^ k)) :: S) f n) : AW l G M fr lo mc ms Post n0 nc ns pc L (.int (nI k) :: .int (nI 1) :: S) f n := aw_ishl hdg (by rw [shl_n hk]; exact kk (pow_le (by omega)))
theorem aw_or {a k : Nat} (ha : a < 256) (hk : k < 8) (hdg : decode M.2.1 pc = .ok (.ior, 1)) (kk : a ||| 2 ^ k < 256 → AW l G M fr lo mc ms Post n0 nc ns (pc + 1) L (.int (nI (a ||| 2 ^ k)) :: S) f n) : AW l G M fr lo mc ms Post n0 nc ns pc L (.int (nI (2 ^ k)) :: .int (nI a) :: S) f n := aw_ior hdg (by rw [or_n ha hk]; exact kk (or_lt ha hk))
end BR
end Pq21
section Pq22
/-! the least costs of relays, for all sets of pendulums that already run -/
def cwN (V T : Nat → Nat) (s leg k : Nat) : Nat := if bitN s k = 1 then 100000 else apart (perN (V (4 + k))) (V (42 + leg)) + T (s ||| 2 ^ k)
def minN (V T : Nat → Nat) (s leg : Nat) : Nat → Nat
  | 0 => 100000
  | u + 1 => if cwN V T s leg u < minN V T s leg u then cwN V T s leg u else minN V T s leg u
theorem min_s {V T : Nat → Nat} {s leg u : Nat} : minN V T s leg (u + 1) = if cwN V T s leg u < minN V T s leg u then cwN V T s leg u else minN V T s leg u := rfl
def valN (V T : Nat → Nat) (s : Nat) : Nat := if V 3 ≤ memN s then 0 else minN V T s (memN s) (V 2)
def tabK (V : Nat → Nat) : Nat → Nat → Nat
  | 0 => fun _ => 0
  | k + 1 => va_up (tabK V k) (255 - k) (valN V (tabK V k) (255 - k))
def lsT (V : Nat → Nat) : Nat → Nat := tabK V 256
theorem min_le {V T : Nat → Nat} {s leg : Nat} : ∀ u, minN V T s leg u ≤ 100000 := by
  intro u
  induction u with
  | zero => exact Nat.le_refl _
  | succ u ih => rw [min_s]; split <;> omega
theorem val_le {V T : Nat → Nat} {s : Nat} : valN V T s ≤ 100000 := by
  unfold valN
  split
  · omega
  · exact min_le _
theorem tab_le {V : Nat → Nat} : ∀ k i, tabK V k i ≤ 100000 := by
  intro k
  induction k with
  | zero => intro i; exact Nat.zero_le _
  | succ k ih =>
    intro i
    show va_up (tabK V k) (255 - k) _ i ≤ _
    by_cases h : i = 255 - k
    · rw [h, up_self]; exact val_le
    · rw [up_ne h]; exact ih i
theorem tab_hi {V : Nat → Nat} {i : Nat} (hi : i < 256) : ∀ k, 256 - i ≤ k → k ≤ 256 → tabK V k i = tabK V (256 - i) i := by
  intro k
  induction k with
  | zero => intro h _; omega
  | succ k ih =>
    intro h1 h2
    rcases Nat.lt_or_ge k (256 - i) with h | h
    · rw [show k + 1 = 256 - i by omega]
    · rw [← ih h (by omega)]
      exact up_ne (by omega)
theorem ls_at {V : Nat → Nat} {s : Nat} (hs : s < 256) : lsT V s = valN V (tabK V (255 - s)) s := by
  unfold lsT
  rw [tab_hi hs 256 (by omega) (Nat.le_refl _), show 256 - s = (255 - s) + 1 by omega]
  show va_up (tabK V (255 - s)) (255 - (255 - s)) (valN V (tabK V (255 - s)) (255 - (255 - s))) s = _
  rw [show 255 - (255 - s) = s by omega, up_self]
theorem cw_eq {V : Nat → Nat} {s leg k : Nat} (hs : s < 256) (hk : k < 8) : cwN V (tabK V (255 - s)) s leg k = cwN V (lsT V) s leg k := by
  unfold cwN
  by_cases h : bitN s k = 1
  · rw [if_pos h, if_pos h]
  · rw [if_neg h, if_neg h]
    have h1 := or_lt hs hk
    have h2 := or_gt hs hk h
    unfold lsT
    rw [tab_hi h1 (255 - s) (by omega) (by omega), tab_hi h1 256 (by omega) (Nat.le_refl _)]
theorem min_at {V T : Nat → Nat} {s leg : Nat} : ∀ u, minN V T s leg u = 100000 ∨ ∃ r, r < u ∧ cwN V T s leg r = minN V T s leg u := by
  intro u
  induction u with
  | zero => exact Or.inl rfl
  | succ u ih =>
    rw [min_s]
    split
    · exact Or.inr ⟨u, Nat.lt_succ_self u, rfl⟩
    · rcases ih with h | ⟨r, h1, h2⟩
      · exact Or.inl h
      · exact Or.inr ⟨r, by omega, h2⟩
theorem min_low {V T : Nat → Nat} {s leg r : Nat} : ∀ u, r < u → minN V T s leg u ≤ cwN V T s leg r := by
  intro u
  induction u with
  | zero => intro h; omega
  | succ u ih =>
    intro h
    rw [min_s]
    by_cases hr : r = u
    · subst hr; split <;> omega
    · have := ih (by omega); split <;> omega
theorem memC_full {s : Nat} : ∀ u, (∀ r, r < u → bitN s r = 1) → memC s u = u := by
  intro u
  induction u with
  | zero => intro _; rfl
  | succ u ih => intro h; unfold memC; rw [ih fun r hr => h r (by omega), h u (Nat.lt_succ_self u)]
theorem memC_mono {s : Nat} : ∀ u w, u ≤ w → memC s u ≤ memC s w := by
  intro u w
  induction w with
  | zero => intro h; have : u = 0 := by omega
            subst this; exact Nat.le_refl _
  | succ w ih =>
    intro h
    by_cases hu : u = w + 1
    · subst hu; exact Nat.le_refl _
    · have := ih (by omega)
      show memC s u ≤ memC s w + bitN s w
      omega
theorem mem_free {s c : Nat} (h : memN s < c) (hc : c ≤ 8) : ∃ r, r < c ∧ bitN s r ≠ 1 := by
  apply Classical.byContradiction
  intro hn
  have h1 := memC_full (s := s) c fun r hr => Classical.byContradiction fun z => hn ⟨r, hr, z⟩
  have h2 := memC_mono (s := s) c 8 hc
  unfold memN at h
  omega
theorem mem_or {s r : Nat} (hs : s < 256) (hr : r < 8) (h : bitN s r ≠ 1) : memN (s ||| 2 ^ r) = memN s + 1 := by
  have key : ∀ r, r < 8 → ∀ s, s < 256 → bitN s r ≠ 1 → memN (s ||| 2 ^ r) = memN s + 1 := by decide +kernel
  exact key r hr s hs h
theorem ls_le {K : Nat} {V : Nat → Nat} (hB : VB K V) (h32 : V 3 ≤ V 2) : ∀ N s, 256 - s = N → s < 256 → memN s ≤ V 3 → lsT V s ≤ 60 * (V 3 - memN s) := by
  intro N
  induction N using Nat.strongRecOn with
  | ind N ih =>
    intro s hN hs hm
    rw [ls_at hs]
    unfold valN
    split
    · exact Nat.zero_le _
    · next h3 =>
      have hc := hB.cnt
      obtain ⟨r, hr, hb⟩ := mem_free (s := s) (c := V 2) (by omega) hc
      have h1 := min_low (V := V) (T := tabK V (255 - s)) (s := s) (leg := memN s) (V 2) hr
      rw [cw_eq hs (by omega)] at h1
      unfold cwN at h1
      rw [if_neg hb] at h1
      have h2 := or_lt hs (show r < 8 by omega)
      have h4 := or_gt hs (show r < 8 by omega) hb
      have h5 := mem_or hs (show r < 8 by omega) hb
      have h6 := ih _ (by omega) (s ||| 2 ^ r) rfl h2 (by omega)
      have hl := hB.len (k := r) (by omega)
      have hp := per_le hl
      have hleg := hB.legs
      have hw := hB.wish (k := memN s) (by omega)
      have ha : apart (perN (V (4 + r))) (V (42 + memN s)) ≤ 60 := by unfold apart; omega
      rw [h5] at h6
      omega
/-- the first pendulum that makes the least cost -/
def frN (V : Nat → Nat) (s leg : Nat) : Nat → Nat → Nat
  | 0, r => r
  | n + 1, r => if cwN V (lsT V) s leg r = lsT V s then r else frN V s leg n (r + 1)
def fstR (V : Nat → Nat) (s leg : Nat) : Nat := frN V s leg (V 2) 0
theorem fr_yes {V : Nat → Nat} {s leg r : Nat} (h : cwN V (lsT V) s leg r = lsT V s) : ∀ n, frN V s leg n r = r := by
  intro n
  cases n with
  | zero => rfl
  | succ n => show (if _ then _ else _) = _; rw [if_pos h]
theorem fr_no {V : Nat → Nat} {s leg r n : Nat} (h : cwN V (lsT V) s leg r ≠ lsT V s) : frN V s leg (n + 1) r = frN V s leg n (r + 1) := by
  show (if _ then _ else _) = _; rw [if_neg h]
theorem ls_ex {K : Nat} {V : Nat → Nat} (hB : VB K V) (h32 : V 3 ≤ V 2) {s : Nat} (hs : s < 256) (hm : memN s < V 3) : ∃ r, r < V 2 ∧ cwN V (lsT V) s (memN s) r = lsT V s := by
  have h1 := ls_le hB h32 _ s rfl hs (by omega)
  have hl := hB.legs
  have hc := hB.cnt
  have e : lsT V s = minN V (tabK V (255 - s)) s (memN s) (V 2) := by rw [ls_at hs]; unfold valN; rw [if_neg (by omega)]
  rcases min_at (V := V) (T := tabK V (255 - s)) (s := s) (leg := memN s) (V 2) with h | ⟨r, hr, h⟩
  · rw [← e] at h; omega
  · exact ⟨r, hr, by rw [← cw_eq hs (by omega), h, e]⟩
/-- the runner found is a pendulum that doesn't run yet -/
theorem fst_ok {K : Nat} {V : Nat → Nat} (hB : VB K V) (h32 : V 3 ≤ V 2) {s : Nat} (hs : s < 256) (hm : memN s < V 3) : fstR V s (memN s) < V 2 ∧ bitN s (fstR V s (memN s)) ≠ 1 ∧ cwN V (lsT V) s (memN s) (fstR V s (memN s)) = lsT V s ∧ ∀ r, r < fstR V s (memN s) → cwN V (lsT V) s (memN s) r ≠ lsT V s := by
  obtain ⟨r0, hr0, h0⟩ := ls_ex hB h32 hs hm
  have key : ∀ n r, r + n = V 2 → r ≤ r0 → (∀ j, j < r → cwN V (lsT V) s (memN s) j ≠ lsT V s) → frN V s (memN s) n r < V 2 ∧ cwN V (lsT V) s (memN s) (frN V s (memN s) n r) = lsT V s ∧ ∀ j, j < frN V s (memN s) n r → cwN V (lsT V) s (memN s) j ≠ lsT V s := by
    intro n
    induction n with
    | zero => intro r h1 h2 _; omega
    | succ n ih =>
      intro r h1 h2 h3
      by_cases h : cwN V (lsT V) s (memN s) r = lsT V s
      · rw [fr_yes h]; exact ⟨by omega, h, h3⟩
      · rw [fr_no h]
        have hne : r ≠ r0 := fun z => h (z ▸ h0)
        exact ih (r + 1) (by omega) (by omega) fun j hj => by
          by_cases hjr : j = r
          · rw [hjr]; exact h
          · exact h3 j (by omega)
  obtain ⟨k1, k2, k3⟩ := key (V 2) 0 (by omega) (Nat.zero_le _) (fun j hj => by omega)
  refine ⟨k1, fun hb => ?_, k2, k3⟩
  have h1 := ls_le hB h32 _ s rfl hs (by omega)
  have hl := hB.legs
  unfold fstR at hb
  have h2 := k2
  unfold cwN at h2
  rw [if_pos hb] at h2
  omega
/-- the sets of runners, leg by leg -/
def setR (V : Nat → Nat) : Nat → Nat
  | 0 => 0
  | k + 1 => setR V k ||| 2 ^ fstR V (setR V k) k
theorem set_ok {K : Nat} {V : Nat → Nat} (hB : VB K V) (h32 : V 3 ≤ V 2) : ∀ k, k ≤ V 3 → setR V k < 256 ∧ memN (setR V k) = k := by
  intro k
  induction k with
  | zero => intro _; exact ⟨(by decide : 0 < 256), (by decide : memN 0 = 0)⟩
  | succ k ih =>
    intro h
    obtain ⟨h1, h2⟩ := ih (by omega)
    have h3 := fst_ok hB h32 h1 (by rw [h2]; omega)
    rw [h2] at h3
    have hc := hB.cnt
    exact ⟨or_lt h1 (by omega), by show memN (setR V k ||| 2 ^ fstR V (setR V k) k) = _; rw [mem_or h1 (by omega) h3.2.1, h2]⟩
def qRelay (V : Nat → Nat) : Nat × Nat := if V 2 < V 3 then (1, 0) else (0, lsT V 0)
def qRunner (V : Nat → Nat) (v : Int32) : Nat × Nat := if isK v (V 3) = true then (if V 2 < V 3 then (2, 0) else (0, fstR V (setR V v.toNatClampNeg) v.toNatClampNeg)) else (1, 0)
theorem m1_n {k : Nat} (h : 1 ≤ k) : nI k - nI 1 = nI (k - 1) := pk_sub h
theorem m1_neg {k : Nat} (hk : k < 1000) : nI k - nI 1 < 0 ↔ k = 0 := by
  have h := pk_sub_toInt (a := k) (b := 1) (by omega) (by decide)
  rw [Int32.lt_iff_toInt_lt, h, Int32.toInt_zero]; omega
end Pq22
section Pq23
/-! mean amplitude; the card -/
theorem sumA_le {K : Nat} {V : Nat → Nat} (hB : VB K V) : ∀ u, u ≤ 8 → sumA V u ≤ 60 * u := by
  intro u
  induction u with
  | zero => intro _; exact Nat.le_refl _
  | succ u ih => intro h; unfold sumA; have := ih (by omega); have := VB.amp hB (k := u) (by omega); omega
theorem mean_num {s c : Nat} (hs : s ≤ 480) (hc : c ≤ 8) (h0 : c ≠ 0) : vf_n64 (FP.ddiv (FP.i2d (nI s)) (FP.i2d (nI c))) := by
  have key : ∀ s, s < 481 → ∀ c, c < 9 → c ≠ 0 → FP.ddiv (FP.i2d (nI s)) (FP.i2d (nI c)) &&& 0x7fffffffffffffff ≤ 0x7ff0000000000000 := by decide +kernel
  exact key s (by omega) c (by omega) h0
def qMean (V : Nat → Nat) : Nat × UInt64 := if cntA V (V 2) = 0 then (1, 0) else (0, FP.ddiv (FP.i2d (nI (sumA V (V 2)))) (FP.i2d (nI (cntA V (V 2)))))
def uN : Nat → Nat
  | 0 => 0
  | e + 1 => 10 ^ e
def lenD (v : Nat) : Nat → Nat
  | 0 => 0
  | e + 1 => if 1 ≤ e ∧ v < uN (e + 1) then lenD v e else e + 1
theorem lenD_le (v : Nat) : ∀ e, lenD v e ≤ e := by
  intro e
  induction e with
  | zero => exact Nat.le_refl _
  | succ e ih => unfold lenD; split <;> omega
def dgs (v : Nat) : Nat → List Nat
  | 0 => []
  | e + 1 => (48 + v / uN (e + 1) % 10) :: dgs v e
theorem dgs_len (v : Nat) : ∀ e, (dgs v e).length = e := by
  intro e
  induction e with
  | zero => rfl
  | succ e ih => show (dgs v e).length + 1 = _; rw [ih]
/-- a number's digits -/
def decN (v : Nat) : List Nat := dgs v (lenD v 9)
theorem dec_len (v : Nat) : (decN v).length ≤ 9 := by unfold decN; rw [dgs_len]; exact lenD_le v 9
def CT (I : Nat → Int32) (A : Nat → Nat → Int32) (I0 : Nat → Int32) (A0 : Nat → Nat → Int32) (L : List Nat) : Prop :=
  I 11 = nI L.length ∧ (∀ i, i < L.length → A 5 i = nI (L.getD i 0)) ∧ (∀ k, k ≠ 11 → I k = I0 k) ∧ ∀ j, j ≠ 5 → A j = A0 j
theorem gd_l {L M : List Nat} {i : Nat} (h : i < L.length) : (L ++ M).getD i 0 = L.getD i 0 := by
  rw [List.getD_eq_getElem?_getD, List.getD_eq_getElem?_getD, List.getElem?_append_left h]
theorem gd_e {L : List Nat} {c : Nat} : (L ++ [c]).getD L.length 0 = c := by
  rw [List.getD_eq_getElem?_getD, List.getElem?_append_right (Nat.le_refl _), Nat.sub_self]; rfl
theorem c128_nar {c : Nat} (h : c < 128) : vp_nar .char (nI c) = nI c := by
  have key : ∀ c, c < 128 → vp_nar .char (nI c) = nI c := by decide +kernel
  exact key c h
/-- the card of a pendulum -/
def starN (V : Nat → Nat) (k : Nat) : Bool := decide (0 < V (36 + kindN (V (4 + k))) ∧ V (39 + kindN (V (4 + k))) = k)
def cardA (V : Nat → Nat) (k : Nat) : List Nat := [] ++ decN k ++ [58] ++ decN (V (4 + k)) ++ [99] ++ [109] ++ [32]
def cardB (V : Nat → Nat) (k : Nat) : List Nat := if V (12 + k) = 0 then cardA V k ++ [114, 101, 115, 116] else cardA V k ++ decN (V (12 + k)) ++ [64] ++ decN (V (20 + k))
def cardL (V : Nat → Nat) (k : Nat) : List Nat := if starN V k then cardB V k ++ [42] else cardB V k
def qCard (V : Nat → Nat) (v : Int32) : Nat × List Nat := if isK v (V 2) = true then (0, cardL V v.toNatClampNeg) else (1, [])
def cardS (s : SG) (q : Nat × List Nat) : SG := if q.1 = 0 then (s.1, s.2.1, s.2.2.1, s.2.2.2.1, s.2.2.2.2.1, (q.2.length, fun i => q.2.getD i 0)) else s
theorem MR.card {I : Nat → Int32} {A : Nat → Nat → Int32} {s : SG} {I' : Nat → Int32} {A' : Nat → Nat → Int32} {L : List Nat} {c : Int32} (h : MR I A s) (hT : CT I' A' (va_up I 12 c) A L) : MR I' A' (cardS s (0, L)) := by
  obtain ⟨h1, ⟨h2, h3⟩, ⟨h4, h5⟩, ⟨h6, h7⟩, ⟨h8, h9⟩, h10, h11⟩ := h
  obtain ⟨t1, t2, t3, t4⟩ := hT
  have i3 := (t3 3 (by decide)).trans (up_ne (by decide))
  have i5 := (t3 5 (by decide)).trans (up_ne (by decide))
  have i7 := (t3 7 (by decide)).trans (up_ne (by decide))
  have i8 := (t3 8 (by decide)).trans (up_ne (by decide))
  have i9 := (t3 9 (by decide)).trans (up_ne (by decide))
  have a0 := t4 0 (by decide)
  have a2 := t4 2 (by decide)
  have a3 := t4 3 (by decide)
  have a4 := t4 4 (by decide)
  exact ⟨fun i hi => by rw [a0]; exact h1 i hi, ⟨by rw [i3]; exact h2, by rw [a2]; exact h3⟩, ⟨by rw [i5]; exact h4, fun z i hi => by rw [a3]; exact h5 z i hi⟩, ⟨by rw [i7]; exact h6, fun i hi => by rw [a4]; exact h7 i hi⟩, ⟨by rw [i8]; exact h8, by rw [i9]; exact h9⟩, t1, t2⟩
theorem c128_narrow {c : Nat} (h : c < 128) : narrow .char (.int (nI c)) = .int (nI c) := by
  have key : ∀ c, c < 128 → (nI c).toUInt32.toUInt16.toUInt32.toInt32 = nI c := by decide +kernel
  exact congrArg Value.int (key c h)
end Pq23
section Pq24
def qType (s : SG) (v : Int32) : Nat × Nat := if inB v (nI 32) (nI 126) = true then (if s.2.2.2.1.1 = 60 then (2, 0) else (0, s.2.2.2.1.1 + 1)) else (1, 0)
def typS (s : SG) (v : Int32) : SG := if (qType s v).1 = 0 then (s.1, s.2.1, s.2.2.1, (s.2.2.2.1.1 + 1, va_up s.2.2.2.1.2 s.2.2.2.1.1 v.toNatClampNeg), s.2.2.2.2) else s
def qE (e : Int32) : Nat × Int32 := if e = -1 then (1, nI 0) else (0, e)
def undS (s : SG) : SG := if s.2.1.1 = 0 then s else (s.2.1.2 (s.2.1.1 - 1), (s.2.1.1 - 1, s.2.1.2), s.2.2)
def savS (s : SG) : SG := (s.1, s.2.1, (true, s.1), s.2.2.2)
def resS (s : SG) : SG := if s.2.2.1.1 = true then (s.2.2.1.2, (0, s.2.1.2), s.2.2) else s
def qUndo (s : SG) : Nat × Nat := if s.2.1.1 = 0 then (1, 0) else (0, s.2.1.1 - 1)
def qRes (s : SG) : Nat × Nat := if s.2.2.1.1 = true then (0, s.2.2.1.2 0) else (1, 0)
theorem MR.typ {I : Nat → Int32} {A : Nat → Nat → Int32} {s : SG} {x : Nat} {d : Int32} (h : MR I A s) (ht : s.2.2.2.1.1 ≤ 60) : MR (va_up (va_up I 7 (nI (s.2.2.2.1.1 + 1))) 12 d) (va_up A 4 (upd (A 4) s.2.2.2.1.1 (nI x))) (s.1, s.2.1, s.2.2.1, (s.2.2.2.1.1 + 1, va_up s.2.2.2.1.2 s.2.2.2.1.1 x), s.2.2.2.2) := by
  obtain ⟨h1, ⟨h2, h3⟩, ⟨h4, h5⟩, ⟨h6, h7⟩, ⟨h8, h9⟩, h10, h11⟩ := h
  refine ⟨fun i hi => by (repeat rw [up_ne (by decide)]); exact h1 i hi, ⟨by (repeat rw [up_ne (by decide)]); exact h2, by (repeat rw [up_ne (by decide)]); exact h3⟩, ⟨by (repeat rw [up_ne (by decide)]); exact h4, fun z i hi => by (repeat rw [up_ne (by decide)]); exact h5 z i hi⟩, ⟨by rw [up_ne (by decide)]; exact up_self, fun i hi => ?_⟩, ⟨by (repeat rw [up_ne (by decide)]); exact h8, by (repeat rw [up_ne (by decide)]); exact h9⟩, by (repeat rw [up_ne (by decide)]); exact h10, fun i hi => by (repeat rw [up_ne (by decide)]); exact h11 i hi⟩
  rw [up_self]
  show upd (A 4) s.2.2.2.1.1 (nI x) i = nI (va_up s.2.2.2.1.2 s.2.2.2.1.1 x i)
  by_cases e : i = s.2.2.2.1.1
  · rw [e, pk_us, up_self]
  · rw [pk_un e, up_ne e]
    have hi' : i < s.2.2.2.1.1 + 1 := hi
    exact h7 i (by omega)
theorem MR.und {I : Nat → Int32} {A : Nat → Nat → Int32} {s : SG} {d : Int32} (h : MR I A s) (hc : s.2.1.1 ≠ 0) : MR (va_up (va_up I 3 (nI (s.2.1.1 - 1))) 12 d) (va_up A 0 (va_cpy (A 2) (A 0) ((s.2.1.1 - 1) * 48) 0 48)) (s.2.1.2 (s.2.1.1 - 1), (s.2.1.1 - 1, s.2.1.2), s.2.2) := by
  obtain ⟨h1, ⟨h2, h3⟩, ⟨h4, h5⟩, ⟨h6, h7⟩, ⟨h8, h9⟩, h10, h11⟩ := h
  refine ⟨fun i hi => ?_, ⟨by rw [up_ne (by decide)]; exact up_self, ?_⟩, ⟨by (repeat rw [up_ne (by decide)]); exact h4, fun z i hi => by (repeat rw [up_ne (by decide)]); exact h5 z i hi⟩, ⟨by (repeat rw [up_ne (by decide)]); exact h6, fun i hi => by (repeat rw [up_ne (by decide)]); exact h7 i hi⟩, ⟨by (repeat rw [up_ne (by decide)]); exact h8, by (repeat rw [up_ne (by decide)]); exact h9⟩, by (repeat rw [up_ne (by decide)]); exact h10, fun i hi => by (repeat rw [up_ne (by decide)]); exact h11 i hi⟩
  · rw [up_self, pk_cpy_in (Nat.zero_le _) (by omega), show (s.2.1.1 - 1) * 48 + (i - 0) = 48 * (s.2.1.1 - 1) + i by omega]
    exact h3 _ (by omega) i hi
  · rw [up_ne (by decide)]
    exact fun j hj i hi => h3 j (by show j < s.2.1.1; have : j < s.2.1.1 - 1 := hj; omega) i hi
theorem MR.sav {I : Nat → Int32} {A : Nat → Nat → Int32} {s : SG} {d : Int32} (h : MR I A s) : MR (va_up (va_up I 5 (nI 1)) 12 d) (va_up A 3 (va_cpy (A 0) (A 3) 0 0 48)) (savS s) := by
  obtain ⟨h1, ⟨h2, h3⟩, ⟨h4, h5⟩, ⟨h6, h7⟩, ⟨h8, h9⟩, h10, h11⟩ := h
  refine ⟨fun i hi => by (repeat rw [up_ne (by decide)]); exact h1 i hi, ⟨by (repeat rw [up_ne (by decide)]); exact h2, by (repeat rw [up_ne (by decide)]); exact h3⟩, ⟨by rw [up_ne (by decide), up_self]; rfl, fun z i hi => ?_⟩, ⟨by (repeat rw [up_ne (by decide)]); exact h6, fun i hi => by (repeat rw [up_ne (by decide)]); exact h7 i hi⟩, ⟨by (repeat rw [up_ne (by decide)]); exact h8, by (repeat rw [up_ne (by decide)]); exact h9⟩, by (repeat rw [up_ne (by decide)]); exact h10, fun i hi => by (repeat rw [up_ne (by decide)]); exact h11 i hi⟩
  rw [up_self, pk_cpy_in (Nat.zero_le _) (by omega), show 0 + (i - 0) = i by omega]
  exact h1 i hi
theorem MR.res {I : Nat → Int32} {A : Nat → Nat → Int32} {s : SG} {d : Int32} (h : MR I A s) (hb : s.2.2.1.1 = true) : MR (va_up (va_up I 3 (nI 0)) 12 d) (va_up A 0 (va_cpy (A 3) (A 0) 0 0 48)) (s.2.2.1.2, (0, s.2.1.2), s.2.2) := by
  obtain ⟨h1, ⟨h2, h3⟩, ⟨h4, h5⟩, ⟨h6, h7⟩, ⟨h8, h9⟩, h10, h11⟩ := h
  refine ⟨fun i hi => ?_, ⟨by rw [up_ne (by decide)]; exact up_self, fun j hj => absurd hj (Nat.not_lt_zero _)⟩, ⟨by (repeat rw [up_ne (by decide)]); exact h4, fun z i hi => by (repeat rw [up_ne (by decide)]); exact h5 z i hi⟩, ⟨by (repeat rw [up_ne (by decide)]); exact h6, fun i hi => by (repeat rw [up_ne (by decide)]); exact h7 i hi⟩, ⟨by (repeat rw [up_ne (by decide)]); exact h8, by (repeat rw [up_ne (by decide)]); exact h9⟩, by (repeat rw [up_ne (by decide)]); exact h10, fun i hi => by (repeat rw [up_ne (by decide)]); exact h11 i hi⟩
  rw [up_self, pk_cpy_in (Nat.zero_le _) (by omega), show 0 + (i - 0) = i by omega]
  exact h5 hb i hi
end Pq24
section Pq25
/-! reading programs -/
def hN (tn : Nat) (tx : Nat → Nat) (sp : Nat) : Nat := if sp < tn then tx sp else 0
def isD (h : Nat) : Bool := decide (48 ≤ h ∧ h ≤ 57)
def needN (tn : Nat) (tx : Nat → Nat) (p : Nat × Bool) (c : Nat) : Nat × Bool := if p.2 = false ∧ hN tn tx p.1 = c then (p.1 + 1, false) else (p.1, true)
def need3 (tn : Nat) (tx : Nat → Nat) (p : Nat × Bool) (a b c : Nat) : Nat × Bool := needN tn tx (needN tn tx (needN tn tx p a) b) c
def runN (tn : Nat) (tx : Nat → Nat) : Nat → Nat → Nat → Nat × Nat
  | 0, v, sp => (v, sp)
  | m + 1, v, sp => if isD (hN tn tx sp) = true then runN tn tx m (10 * v + hN tn tx sp - 48) (sp + 1) else (v, sp)
theorem run_yes {tn : Nat} {tx : Nat → Nat} {m v sp : Nat} (h : isD (hN tn tx sp) = true) : runN tn tx (m + 1) v sp = runN tn tx m (10 * v + hN tn tx sp - 48) (sp + 1) := by show (if _ then _ else _) = _; rw [if_pos h]
theorem run_no {tn : Nat} {tx : Nat → Nat} {m v sp : Nat} (h : isD (hN tn tx sp) = false) : runN tn tx m v sp = (v, sp) := by
  cases m with
  | zero => rfl
  | succ m => show (if _ then _ else _) = _; rw [if_neg (by rw [h]; decide)]
def digN (tn : Nat) (tx : Nat → Nat) (most : Nat) (p : Nat × Bool) : Nat × (Nat × Bool) :=
  if (needN tn tx p 32).2 = false ∧ isD (hN tn tx (needN tn tx p 32).1) = true then ((runN tn tx most 0 (needN tn tx p 32).1).1, ((runN tn tx most 0 (needN tn tx p 32).1).2, false)) else (0, ((needN tn tx p 32).1, true))
def PS (I I0 : Nat → Int32) (p : Nat × Bool) : Prop := I 14 = nI p.1 ∧ I 15 = bI p.2 ∧ ∀ k, k ≠ 14 → k ≠ 15 → I k = I0 k
theorem PS.put {I I0 : Nat → Int32} {p : Nat × Bool} (h : PS I I0 p) {w : Bool} {q : Nat} {x : Int32} (hx : x = bI w) : PS (va_up (va_up I 15 x) 14 (nI q)) I0 (q, w) :=
  ⟨up_self, by rw [up_ne (by decide), up_self, hx], fun k h1 h2 => by rw [up_ne h1, up_ne h2]; exact h.2.2 k h1 h2⟩
def pcN (tn : Nat) (tx : Nat → Nat) (p : Nat × Bool) : (Nat × Nat × Nat) × (Nat × Bool) :=
  if hN tn tx p.1 = 117 then ((117, (digN tn tx 1 (needN tn tx (needN tn tx p 117) 116)).1, 0), (digN tn tx 1 (needN tn tx (needN tn tx p 117) 116)).2)
  else ((99, (digN tn tx 1 (needN tn tx (need3 tn tx p 97 116 99) 104)).1, 0), (digN tn tx 1 (needN tn tx (need3 tn tx p 97 116 99) 104)).2)
/-! one command: its sign, its one or two numbers -/
def cmdN (tn : Nat) (tx : Nat → Nat) (sp : Nat) : (Nat × Nat × Nat) × (Nat × Bool) :=
  if hN tn tx sp = 104 then ((104, (digN tn tx 3 (need3 tn tx (sp + 1, false) 97 110 103)).1, 0), (digN tn tx 3 (need3 tn tx (sp + 1, false) 97 110 103)).2)
  else if hN tn tx sp = 112 then ((112, (digN tn tx 1 (need3 tn tx (sp + 1, false) 117 115 104)).1, (digN tn tx 3 (digN tn tx 1 (need3 tn tx (sp + 1, false) 117 115 104)).2).1), (digN tn tx 3 (digN tn tx 1 (need3 tn tx (sp + 1, false) 117 115 104)).2).2)
  else if hN tn tx sp = 99 then
    pcN tn tx (sp + 1, false)
  else if hN tn tx sp = 102 then ((102, (digN tn tx 3 (needN tn tx (need3 tn tx (need3 tn tx (sp + 1, false) 114 105 99) 116 105 111) 110)).1, 0), (digN tn tx 3 (needN tn tx (need3 tn tx (need3 tn tx (sp + 1, false) 114 105 99) 116 105 111) 110)).2)
  else if hN tn tx sp = 108 then ((108, (digN tn tx 3 (needN tn tx (needN tn tx (sp + 1, false) 101) 103)).1, 0), (digN tn tx 3 (needN tn tx (needN tn tx (sp + 1, false) 101) 103)).2)
  else if hN tn tx sp = 116 then ((116, (digN tn tx 3 (need3 tn tx (sp + 1, false) 105 99 107)).1, 0), (digN tn tx 3 (need3 tn tx (sp + 1, false) 105 99 107)).2)
  else ((0, 0, 0), (sp, true))
end Pq25
section Pq26
/-! what the changes leave within bounds -/
theorem VB.by9 {K : Nat} {V W : Nat → Nat} (h : VB K V) (h0 : W 0 = V 0) (h1 : W 1 ≤ 30) (h2 : W 2 = V 2) (h3 : W 3 ≤ 6) (h4 : ∀ k, k < 8 → W (4 + k) = V (4 + k)) (h12 : ∀ k, k < 8 → W (12 + k) = V (12 + k) ∨ (k < V 2 ∧ W (12 + k) ≤ 60)) (h20 : ∀ k, k < 8 → W (20 + k) = V (20 + k) ∨ (k < V 2 ∧ W (20 + k) ≤ V 0)) (h28 : ∀ k, k < 8 → W (28 + k) = V (28 + k)) (h36 : ∀ k, k < 3 → W (36 + k) ≤ 60 ∧ W (39 + k) < 8) (h42 : ∀ k, k < 6 → W (42 + k) ≤ 60) : VB K W := by
  refine ⟨by rw [h0]; exact h.now, h.kk, h1, by rw [h2]; exact h.cnt, h3, fun k hk => ⟨by rw [h4 k hk]; exact h.len hk, fun z => by rw [h4 k hk]; exact h.len1 (by omega)⟩, fun k hk => ?_, h36, h42⟩
  have a1 := h.amp hk
  have a2 := h.start hk
  have a3 := h.sw hk
  have b1 := h12 k hk
  have b2 := h20 k hk
  have b3 := h28 k hk
  refine ⟨by omega, by omega, by omega, fun z => ?_⟩
  have a4 := h.dead hk (by omega)
  omega
theorem VB.add9 {K : Nat} {V : Nat → Nat} {a : Nat} (h : VB K V) (hc : V 2 < 8) (ha : 1 ≤ a ∧ a ≤ 99) : VB K (va_up (va_up V (4 + V 2) a) 2 (V 2 + 1)) := by
  have e : ∀ j, j ≠ 2 → j ≠ 4 + V 2 → va_up (va_up V (4 + V 2) a) 2 (V 2 + 1) j = V j := fun j h1 h2 => by rw [up_ne h1, up_ne h2]
  have e2 : va_up (va_up V (4 + V 2) a) 2 (V 2 + 1) 2 = V 2 + 1 := up_self
  refine ⟨by rw [e 0 (by omega) (by omega)]; exact h.now, h.kk, by rw [e 1 (by omega) (by omega)]; exact h.fric, by rw [e2]; omega, by rw [e 3 (by omega) (by omega)]; exact h.legs, fun k hk => ?_, fun k hk => ?_, fun k hk => ?_, fun k hk => by rw [e _ (by omega) (by omega)]; exact h.wish hk⟩
  · by_cases z : k = V 2
    · subst z
      rw [up_ne (by omega), up_self]
      exact ⟨ha.2, fun _ => ha.1⟩
    · rw [e _ (by omega) (by omega), e2]
      exact ⟨h.len hk, fun y => h.len1 (by omega)⟩
  · rw [e _ (by omega) (by omega), e _ (by omega) (by omega), e _ (by omega) (by omega), e _ (by omega) (by omega), e2]
    exact ⟨h.amp hk, h.start hk, h.sw hk, fun y => h.dead hk (by omega)⟩
  · rw [e _ (by omega) (by omega), e _ (by omega) (by omega)]
    exact ⟨h.rec hk, h.hol hk⟩
theorem VB.push9 {K : Nat} {V : Nat → Nat} {k a : Nat} (h : VB K V) (hk : k < V 2) (ha : a ≤ 60) : VB K (pushV V k a) := by
  have hc := h.cnt
  have hq := kindN_lt (V (4 + k))
  have key : ∀ j, pushV V k a j = V j ∨ (j = 12 + k ∧ pushV V k a j = a) ∨ (j = 20 + k ∧ pushV V k a j = V 0) ∨ (36 ≤ j ∧ j < 39 ∧ pushV V k a j = a) ∨ (39 ≤ j ∧ j < 42 ∧ pushV V k a j = k) := by
    intro j
    have e1 : ∀ j, (va_up (if V (12 + k) = 0 then va_up V (20 + k) (V 0) else V) (12 + k) a) j = V j ∨ (j = 12 + k ∧ (va_up (if V (12 + k) = 0 then va_up V (20 + k) (V 0) else V) (12 + k) a) j = a) ∨ (j = 20 + k ∧ (va_up (if V (12 + k) = 0 then va_up V (20 + k) (V 0) else V) (12 + k) a) j = V 0) := by
      intro j
      by_cases z : j = 12 + k
      · exact Or.inr (Or.inl ⟨z, by rw [z, up_self]⟩)
      · rw [up_ne z]
        split
        · by_cases y : j = 20 + k
          · exact Or.inr (Or.inr ⟨y, by rw [y, up_self]⟩)
          · rw [up_ne y]; exact Or.inl rfl
        · exact Or.inl rfl
    unfold pushV
    split
    · by_cases z : j = 39 + kindN (V (4 + k))
      · exact Or.inr (Or.inr (Or.inr (Or.inr ⟨by omega, by omega, by rw [z, up_self]⟩)))
      · rw [up_ne z]
        by_cases y : j = 36 + kindN (V (4 + k))
        · exact Or.inr (Or.inr (Or.inr (Or.inl ⟨by omega, by omega, by rw [y, up_self]⟩)))
        · rw [up_ne y]
          rcases e1 j with q | q | q
          · exact Or.inl q
          · exact Or.inr (Or.inl q)
          · exact Or.inr (Or.inr (Or.inl q))
    · rcases e1 j with q | q | q
      · exact Or.inl q
      · exact Or.inr (Or.inl q)
      · exact Or.inr (Or.inr (Or.inl q))
  have hf := h.fric
  have hl := h.legs
  refine VB.by9 h (by have := key 0; omega) (by have := key 1; omega) (by have := key 2; omega) (by have := key 3; omega) (fun i hi => by have := key (4 + i); omega) (fun i hi => by have := key (12 + i); omega) (fun i hi => by have := key (20 + i); omega) (fun i hi => by have := key (28 + i); omega) (fun i hi => ?_) (fun i hi => by have := key (42 + i); have := h.wish hi; omega)
  have := h.rec hi
  have := h.hol hi
  have := key (36 + i)
  have := key (39 + i)
  omega
theorem VB.catch9 {K : Nat} {V : Nat → Nat} {k : Nat} (h : VB K V) (hk : k < V 2) : VB K (va_up V (12 + k) 0) := by
  have hc := h.cnt
  have hf := h.fric
  have hl := h.legs
  refine VB.by9 h (up_ne (by omega)) (by rw [up_ne (by omega)]; exact hf) (up_ne (by omega)) (by rw [up_ne (by omega)]; exact hl) (fun i hi => up_ne (by omega)) (fun i hi => ?_) (fun i hi => Or.inl (up_ne (by omega))) (fun i hi => up_ne (by omega)) (fun i hi => by rw [up_ne (by omega), up_ne (by omega)]; exact ⟨h.rec hi, h.hol hi⟩) (fun i hi => by rw [up_ne (by omega)]; exact h.wish hi)
  by_cases z : i = k
  · subst z; rw [up_self]; exact Or.inr ⟨hk, Nat.zero_le _⟩
  · exact Or.inl (up_ne (by omega))
theorem VB.fric9 {K : Nat} {V : Nat → Nat} {a : Nat} (h : VB K V) (ha : a ≤ 30) : VB K (va_up V 1 a) :=
  VB.by9 h (up_ne (by omega)) (by rw [up_self]; exact ha) (up_ne (by omega)) (by rw [up_ne (by omega)]; exact h.legs) (fun i hi => up_ne (by omega)) (fun i hi => Or.inl (up_ne (by omega))) (fun i hi => Or.inl (up_ne (by omega))) (fun i hi => up_ne (by omega)) (fun i hi => by rw [up_ne (by omega), up_ne (by omega)]; exact ⟨h.rec hi, h.hol hi⟩) (fun i hi => by rw [up_ne (by omega)]; exact h.wish hi)
theorem VB.leg9 {K : Nat} {V : Nat → Nat} {a : Nat} (h : VB K V) (h3 : V 3 < 6) (ha : a ≤ 60) : VB K (va_up (va_up V (42 + V 3) a) 3 (V 3 + 1)) := by
  have e : ∀ j, j ≠ 3 → j < 42 → va_up (va_up V (42 + V 3) a) 3 (V 3 + 1) j = V j := fun j h1 h2 => by rw [up_ne h1, up_ne (by omega)]
  refine VB.by9 h (e _ (by omega) (by omega)) (by rw [e _ (by omega) (by omega)]; exact h.fric) (e _ (by omega) (by omega)) (by rw [up_self]; omega) (fun i hi => e _ (by omega) (by omega)) (fun i hi => Or.inl (e _ (by omega) (by omega))) (fun i hi => Or.inl (e _ (by omega) (by omega))) (fun i hi => e _ (by omega) (by omega)) (fun i hi => by rw [e _ (by omega) (by omega), e _ (by omega) (by omega)]; exact ⟨h.rec hi, h.hol hi⟩) (fun i hi => ?_)
  rw [up_ne (by omega)]
  by_cases z : i = V 3
  · rw [z, up_self]; exact ha
  · rw [up_ne (by omega)]; exact h.wish hi
theorem VB.cut9 {K : Nat} {V : Nat → Nat} {k : Nat} (h : VB K V) : VB K (va_up (cutV V k 5) 3 (V 3 - 1)) := by
  have hl := h.legs
  have e : ∀ j, j ≠ 3 → j < 42 → va_up (cutV V k 5) 3 (V 3 - 1) j = V j := fun j h1 h2 => by rw [up_ne h1]; unfold cutV; rw [if_neg (by omega)]
  refine VB.by9 h (e _ (by omega) (by omega)) (by rw [e _ (by omega) (by omega)]; exact h.fric) (e _ (by omega) (by omega)) (by rw [up_self]; omega) (fun i hi => e _ (by omega) (by omega)) (fun i hi => Or.inl (e _ (by omega) (by omega))) (fun i hi => Or.inl (e _ (by omega) (by omega))) (fun i hi => e _ (by omega) (by omega)) (fun i hi => by rw [e _ (by omega) (by omega), e _ (by omega) (by omega)]; exact ⟨h.rec hi, h.hol hi⟩) (fun i hi => ?_)
  rw [up_ne (by omega)]
  unfold cutV
  split
  · rw [show 42 + i + 1 = 42 + (i + 1) by omega]; exact h.wish (by omega)
  · exact h.wish hi
/-- a change keeps the bounds; only passing moves the clock -/
def VBq (K : Nat) (q : Nat × Nat × (Nat → Nat)) : Prop := VB (K + 500) q.2.2
theorem vq_add {K : Nat} {V : Nat → Nat} (h : VB K V) (hK : K + 500 < 16000000) (a : Int32) : VBq K (opAdd V a) := by
  have hm := h.mono (K' := K + 500) (by omega) hK
  have hc := h.cnt
  unfold VBq opAdd
  split
  · exact hm
  · next h1 =>
    split
    · exact hm
    · obtain ⟨x, x0, x1, rfl⟩ := inB_of (by decide) (by decide) (eq_true_of_ne_false h1)
      rw [nIc (by omega)]
      exact VB.add9 hm (by omega) ⟨x0, x1⟩
theorem vq_push {K : Nat} {V : Nat → Nat} (h : VB K V) (hK : K + 500 < 16000000) (p d : Int32) : VBq K (opPush V p d) := by
  have hm := h.mono (K' := K + 500) (by omega) hK
  have hc := h.cnt
  unfold VBq opPush
  split
  · exact hm
  · next h1 =>
    split
    · exact hm
    · split
      · exact hm
      · obtain ⟨x, x0, rfl⟩ := isK_of (by omega) (eq_true_of_ne_false h1)
        rw [nIc (show x < 2 ^ 31 by omega)] at *
        exact VB.push9 hm x0 (by omega)
theorem vq_catch {K : Nat} {V : Nat → Nat} (h : VB K V) (hK : K + 500 < 16000000) (p : Int32) : VBq K (opCatch V p) := by
  have hm := h.mono (K' := K + 500) (by omega) hK
  have hc := h.cnt
  unfold VBq opCatch
  split
  · exact hm
  · next h1 =>
    split
    · exact hm
    · obtain ⟨x, x0, rfl⟩ := isK_of (by omega) (eq_true_of_ne_false h1)
      rw [nIc (show x < 2 ^ 31 by omega)] at *
      exact VB.catch9 hm x0
theorem vq_fric {K : Nat} {V : Nat → Nat} (h : VB K V) (hK : K + 500 < 16000000) (a : Int32) : VBq K (opFric V a) := by
  have hm := h.mono (K' := K + 500) (by omega) hK
  unfold VBq opFric
  split
  · exact hm
  · next h1 =>
    obtain ⟨x, x0, x1, rfl⟩ := inB_of (by decide) (by decide) (eq_true_of_ne_false h1)
    rw [nIc (by omega)]
    exact VB.fric9 hm x1
theorem vq_pass {K : Nat} {V : Nat → Nat} (h : VB K V) (hK : K + 500 < 16000000) (a : Int32) : VBq K (opPass V a) := by
  have hm := h.mono (K' := K + 500) (by omega) hK
  unfold VBq opPass
  split
  · exact hm
  · next h1 =>
    obtain ⟨x, x0, x1, rfl⟩ := inB_of (by decide) (by decide) (eq_true_of_ne_false h1)
    rw [nIc (by omega)]
    exact (VB.tks (K := K) (V := V) x h (by omega)).mono (by omega) hK
theorem vq_leg {K : Nat} {V : Nat → Nat} (h : VB K V) (hK : K + 500 < 16000000) (a : Int32) : VBq K (opLeg V a) := by
  have hm := h.mono (K' := K + 500) (by omega) hK
  have hl := h.legs
  unfold VBq opLeg
  split
  · exact hm
  · next h1 =>
    split
    · exact hm
    · obtain ⟨x, x0, x1, rfl⟩ := inB_of (by decide) (by decide) (eq_true_of_ne_false h1)
      rw [nIc (by omega)]
      exact VB.leg9 hm (by omega) x1
theorem vq_cut {K : Nat} {V : Nat → Nat} (h : VB K V) (hK : K + 500 < 16000000) (p : Int32) : VBq K (opCut V p) := by
  have hm := h.mono (K' := K + 500) (by omega) hK
  unfold VBq opCut
  split
  · exact hm
  · exact VB.cut9 hm
/-! programs -/
def opC (V : Nat → Nat) (c : Nat × Nat × Nat) : Nat × Nat × (Nat → Nat) :=
  if c.1 = 104 then opAdd V (nI c.2.1) else if c.1 = 112 then opPush V (nI c.2.1) (nI c.2.2) else if c.1 = 99 then opCatch V (nI c.2.1) else if c.1 = 102 then opFric V (nI c.2.1) else if c.1 = 108 then opLeg V (nI c.2.1) else if c.1 = 117 then opCut V (nI c.2.1) else opPass V (nI c.2.1)
def isC (x : Nat) : Prop := x = 104 ∨ x = 112 ∨ x = 99 ∨ x = 102 ∨ x = 108 ∨ x = 117 ∨ x = 116
theorem isC_117 : isC 117 := by unfold isC; decide
theorem isC_99 : isC 99 := by unfold isC; decide
theorem isC_102 : isC 102 := by unfold isC; decide
theorem isC_108 : isC 108 := by unfold isC; decide
theorem isC_116 : isC 116 := by unfold isC; decide
theorem vq_C {K : Nat} {V : Nat → Nat} (h : VB K V) (hK : K + 500 < 16000000) (c : Nat × Nat × Nat) : VBq K (opC V c) := by
  unfold opC
  (repeat' split) <;> first | exact vq_add h hK _ | exact vq_push h hK _ _ | exact vq_catch h hK _ | exact vq_fric h hK _ | exact vq_leg h hK _ | exact vq_cut h hK _ | exact vq_pass h hK _
theorem need_ge {tn c : Nat} {tx : Nat → Nat} {p : Nat × Bool} : p.1 ≤ (needN tn tx p c).1 := by
  unfold needN
  split
  · exact Nat.le_succ _
  · exact Nat.le_refl _
theorem need3_ge {tn a b c : Nat} {tx : Nat → Nat} {p : Nat × Bool} : p.1 ≤ (need3 tn tx p a b c).1 := Nat.le_trans need_ge (Nat.le_trans need_ge need_ge)
theorem run_ge {tn : Nat} {tx : Nat → Nat} : ∀ m v sp, sp ≤ (runN tn tx m v sp).2 := by
  intro m
  induction m with
  | zero => intro v sp; exact Nat.le_refl _
  | succ m ih =>
    intro v sp
    cases hd : isD (hN tn tx sp) with
    | false => rw [run_no hd]; exact Nat.le_refl _
    | true => rw [run_yes hd]; exact Nat.le_trans (Nat.le_succ _) (ih _ _)
theorem dig_ge {tn most : Nat} {tx : Nat → Nat} {p : Nat × Bool} : p.1 ≤ (digN tn tx most p).2.1 := by
  unfold digN
  split
  · exact Nat.le_trans need_ge (run_ge _ _ _)
  · exact need_ge
theorem cmd_ge {tn sp : Nat} {tx : Nat → Nat} : (cmdN tn tx sp).2.2 = false → sp + 1 ≤ (cmdN tn tx sp).2.1 ∧ isC (cmdN tn tx sp).1.1 := by
  unfold cmdN
  split
  · exact fun _ => ⟨Nat.le_trans (need3_ge (p := (sp + 1, false))) dig_ge, Or.inl rfl⟩
  · split
    · exact fun _ => ⟨Nat.le_trans (need3_ge (p := (sp + 1, false))) (Nat.le_trans dig_ge dig_ge), Or.inr (Or.inl rfl)⟩
    · split
      · unfold pcN
        split
        · exact fun _ => ⟨Nat.le_trans (need_ge (p := (sp + 1, false))) (Nat.le_trans need_ge dig_ge), isC_117⟩
        · exact fun _ => ⟨Nat.le_trans (need3_ge (p := (sp + 1, false))) (Nat.le_trans need_ge dig_ge), isC_99⟩
      · split
        · exact fun _ => ⟨Nat.le_trans (need3_ge (p := (sp + 1, false))) (Nat.le_trans need3_ge (Nat.le_trans need_ge dig_ge)), isC_102⟩
        · split
          · exact fun _ => ⟨Nat.le_trans (need_ge (p := (sp + 1, false))) (Nat.le_trans need_ge dig_ge), isC_108⟩
          · split
            · exact fun _ => ⟨Nat.le_trans (need3_ge (p := (sp + 1, false))) dig_ge, isC_116⟩
            · exact fun h => Bool.noConfusion h
end Pq26
section Pq27
def rdN (tn : Nat) (tx : Nat → Nat) : Nat → Nat → List (Nat × Nat × Nat) × (Nat × Bool)
  | 0, sp => ([], (sp, true))
  | m + 1, sp => if (cmdN tn tx sp).2.2 = false ∧ hN tn tx (cmdN tn tx sp).2.1 = 59 then ((cmdN tn tx sp).1 :: (rdN tn tx m ((cmdN tn tx sp).2.1 + 1)).1, (rdN tn tx m ((cmdN tn tx sp).2.1 + 1)).2) else ([(cmdN tn tx sp).1], (cmdN tn tx sp).2)
theorem rd_yes {tn m sp : Nat} {tx : Nat → Nat} (h : (cmdN tn tx sp).2.2 = false ∧ hN tn tx (cmdN tn tx sp).2.1 = 59) : rdN tn tx (m + 1) sp = ((cmdN tn tx sp).1 :: (rdN tn tx m ((cmdN tn tx sp).2.1 + 1)).1, (rdN tn tx m ((cmdN tn tx sp).2.1 + 1)).2) := by show (if _ then _ else _) = _; rw [if_pos h]
theorem rd_no {tn m sp : Nat} {tx : Nat → Nat} (h : ¬((cmdN tn tx sp).2.2 = false ∧ hN tn tx (cmdN tn tx sp).2.1 = 59)) : rdN tn tx (m + 1) sp = ([(cmdN tn tx sp).1], (cmdN tn tx sp).2) := by show (if _ then _ else _) = _; rw [if_neg h]
def rnL : List (Nat × Nat × Nat) → Nat → (Nat → Nat) → Nat × Nat × (Nat → Nat)
  | [], k, V => (0, k, V)
  | c :: cs, k, V => if (opC V c).1 = 0 then rnL cs (k + 1) (opC V c).2.2 else (2, k, V)
theorem rn_yes {c : Nat × Nat × Nat} {cs : List (Nat × Nat × Nat)} {k : Nat} {V : Nat → Nat} (h : (opC V c).1 = 0) : rnL (c :: cs) k V = rnL cs (k + 1) (opC V c).2.2 := by show (if _ then _ else _) = _; rw [if_pos h]
theorem rn_no {c : Nat × Nat × Nat} {cs : List (Nat × Nat × Nat)} {k : Nat} {V : Nat → Nat} (h : (opC V c).1 ≠ 0) : rnL (c :: cs) k V = (2, k, V) := by show (if _ then _ else _) = _; rw [if_neg h]
def fA9 (s : SG) (x : Int32) : SG := (s.1, s.2.1, s.2.2.1, s.2.2.2.1, (s.2.2.2.2.1.1, x), s.2.2.2.2.2)
def eA9 (s : SG) (x : Int32) : SG := (s.1, s.2.1, s.2.2.1, s.2.2.2.1, (x, s.2.2.2.2.1.2), s.2.2.2.2.2)
def emS (s : SG) : SG := (s.1, s.2.1, s.2.2.1, (0, s.2.2.2.1.2), s.2.2.2.2)
def exR (s : SG) (Q : Nat × Nat × (Nat → Nat)) : Nat × Nat × SG := if Q.1 = 0 then (0, Q.2.1, opS s (0, Q.2.1, Q.2.2)) else (2, 0, fA9 s (nI Q.2.1))
def exT (s : SG) (R : List (Nat × Nat × Nat) × (Nat × Bool)) : Nat × Nat × SG := if R.2.2 = true ∨ R.2.1 < s.2.2.2.1.1 then (1, 0, eA9 (emS s) (nI R.2.1)) else exR (emS s) (rnL R.1 0 s.1)
def qExe (s : SG) : Nat × Nat × SG := exT s (rdN s.2.2.2.1.1 s.2.2.2.1.2 61 0)
end Pq27
section Pq28
/-! the reference's constructor -/
theorem rU_ext {f : HT} {o w : Nat} {C C' : Nat → va_E} (h : ∀ j, j < w → C j = C' j) : rU f o w C = rU f o w C' := by
  funext a
  simp only [rU]
  by_cases z : o ≤ a ∧ a < o + w
  · rw [if_pos z, if_pos z]; exact h _ (by omega)
  · rw [if_neg z, if_neg z]
section CR
variable {l : Launch} {G : GT} {M : MT} {fr lo mc ms : Nat} {Post : PT} {n0 nc ns pc : Nat} {L : List (Nat × Value)} {S : List Value} {f : HT} {n o : Nat} {C : Nat → va_E}
theorem aw_cputF {ix ci k w : Nat} {vs vs' : List Value} {v : Value} {ty : FieldType} (hF : FF M.1 ix ci k ty) (hin : M.2.2.2.2.2 = "<init>") (hw : 0 < w) (hC : C 0 = .inr (ci, vs)) (hn : ∀ ρ, narrow ty (cv ρ v) = cv ρ v) (hfit : ∀ ρ, fits ty (cv ρ v) = true) (hl : k < vs.length) (hdg : decode M.2.1 pc = .ok (.putfield ix, 3)) (hvs : vs.set k v = vs') (k9 : AW l G M fr lo mc ms Post n0 nc ns (pc + 3) L S (rU f o w (va_up C 0 (.inr (ci, vs')))) n) : AW l G M fr lo mc ms Post n0 nc ns pc L (v :: .ref o :: S) (rU f o w C) n := by
  subst hvs
  refine aw_putF hF hin ((rU_at 0 hw).trans hC) hn hfit hl hdg ?_
  have e : va_up (rU f o w C) o (.inr (ci, vs.set k v)) = rU f o w (va_up C 0 (.inr (ci, vs.set k v))) := rU_up 0 hw _
  rw [e]
  exact k9
theorem aw_cput {ix ci k w : Nat} {vs vs' : List Value} {v : Value} {ty : FieldType} (hF : FP M.1 ix ci k ty) (hw : 0 < w) (hC : C 0 = .inr (ci, vs)) (hn : ∀ ρ, narrow ty (cv ρ v) = cv ρ v) (hfit : ∀ ρ, fits ty (cv ρ v) = true) (hl : k < vs.length) (hdg : decode M.2.1 pc = .ok (.putfield ix, 3)) (hvs : vs.set k v = vs') (k9 : AW l G M fr lo mc ms Post n0 nc ns (pc + 3) L S (rU f o w (va_up C 0 (.inr (ci, vs')))) n) : AW l G M fr lo mc ms Post n0 nc ns pc L (v :: .ref o :: S) (rU f o w C) n := by
  subst hvs
  refine aw_put hF ((rU_at 0 hw).trans hC) hn hfit hl hdg ?_
  have e : va_up (rU f o w C) o (.inr (ci, vs.set k v)) = rU f o w (va_up C 0 (.inr (ci, vs.set k v))) := rU_up 0 hw _
  rw [e]
  exact k9
theorem aw_cnew_int {j w N : Nat} (hj : j < w) (hN9 : N < 100000) (hc : nc + 1 ≤ mc) (hs : ns + N ≤ ms) (hdg : decode M.2.1 pc = .ok (.newarray .int, 2)) (k : AW l G M fr lo mc ms Post n0 (nc + 1) (ns + N) (pc + 2) L (.ref (o + j) :: S) (rU f o w (va_up C j (.inl (0, (N, .inl (fun _ => 0)))))) (o + j + 1)) : AW l G M fr lo mc ms Post n0 nc ns pc L (.int (nI N) :: S) (rU f o w C) (o + j) :=
  aw_newa_int (nI_pos (by omega)) (nIc (by omega)) (by show N * 4 ≤ 536870912; omega) hc hs hdg (by rw [rU_up j hj]; exact k)
end CR
/-- the gymnasium at its start -/
def sg0 : SG := (fun i => if i = 1 then 5 else 0, (0, fun _ _ => 0), (false, fun _ => 0), (0, fun _ => 0), (-1, -1), (0, fun _ => 0))
end Pq28
