/-! rows over numbers of which the natural number is known -/
theorem z_nI (k : Nat) : Int32.ofInt (k : Int) = nI k := by
  unfold nI
  rw [Int32.ofInt_eq_ofNat]
section NR
variable {l : Launch} {G : GT} {M : MT} {fr lo mc ms : Nat} {Post : PT} {n0 nc ns pc : Nat} {L L' : List (Nat × Value)} {S : List Value} {f : HT} {n : Nat}
theorem aw_iadd_n {a b : Nat} (hdg : decode M.2.1 pc = .ok (.iadd, 1)) (k : AW l G M fr lo mc ms Post n0 nc ns (pc + 1) L (.int (nI (a + b)) :: S) f n) : AW l G M fr lo mc ms Post n0 nc ns pc L (.int (nI b) :: .int (nI a) :: S) f n :=
  aw_iadd hdg (by rw [nI_add]; exact k)
theorem aw_isub_n {a b : Nat} (h : b ≤ a) (hdg : decode M.2.1 pc = .ok (.isub, 1)) (k : AW l G M fr lo mc ms Post n0 nc ns (pc + 1) L (.int (nI (a - b)) :: S) f n) : AW l G M fr lo mc ms Post n0 nc ns pc L (.int (nI b) :: .int (nI a) :: S) f n :=
  aw_isub hdg (by rw [pk_sub h]; exact k)
theorem aw_imul_n {a b : Nat} (hdg : decode M.2.1 pc = .ok (.imul, 1)) (k : AW l G M fr lo mc ms Post n0 nc ns (pc + 1) L (.int (nI (a * b)) :: S) f n) : AW l G M fr lo mc ms Post n0 nc ns pc L (.int (nI b) :: .int (nI a) :: S) f n :=
  aw_imul hdg (by rw [pk_mul]; exact k)
theorem aw_idiv_n {a b : Nat} (ha : a < 2 ^ 31) (h0 : 0 < b) (hb : b < 2 ^ 31) (hdg : decode M.2.1 pc = .ok (.idiv, 1)) (k : AW l G M fr lo mc ms Post n0 nc ns (pc + 1) L (.int (nI (a / b)) :: S) f n) : AW l G M fr lo mc ms Post n0 nc ns pc L (.int (nI b) :: .int (nI a) :: S) f n :=
  aw_idiv (nI_ne0 h0 hb) hdg (by rw [pk_div ha h0 hb]; exact k)
theorem aw_irem_n {a b : Nat} (ha : a < 2 ^ 31) (h0 : 0 < b) (hb : b < 2 ^ 31) (hdg : decode M.2.1 pc = .ok (.irem, 1)) (k : AW l G M fr lo mc ms Post n0 nc ns (pc + 1) L (.int (nI (a % b)) :: S) f n) : AW l G M fr lo mc ms Post n0 nc ns pc L (.int (nI b) :: .int (nI a) :: S) f n :=
  aw_irem (nI_ne0 h0 hb) hdg (by rw [pk_rem ha h0 hb]; exact k)
theorem aw_iconst_n {z : Int} (v : Nat) (hdg : decode M.2.1 pc = .ok (.iconst z, 1)) (hv : Int32.ofInt z = nI v) (k : AW l G M fr lo mc ms Post n0 nc ns (pc + 1) L (.int (nI v) :: S) f n) : AW l G M fr lo mc ms Post n0 nc ns pc L S f n := aw_iconst hdg hv k
theorem aw_bipush_n {z : Int} (v : Nat) (hdg : decode M.2.1 pc = .ok (.bipush z, 2)) (hv : (Int8.ofInt z).toInt32 = nI v) (k : AW l G M fr lo mc ms Post n0 nc ns (pc + 2) L (.int (nI v) :: S) f n) : AW l G M fr lo mc ms Post n0 nc ns pc L S f n := aw_bipush hdg hv k
theorem aw_sipush_n {z : Int} (v : Nat) (hdg : decode M.2.1 pc = .ok (.sipush z, 3)) (hv : (Int16.ofInt z).toInt32 = nI v) (k : AW l G M fr lo mc ms Post n0 nc ns (pc + 3) L (.int (nI v) :: S) f n) : AW l G M fr lo mc ms Post n0 nc ns pc L S f n := aw_sipush hdg hv k
theorem aw_iinc_n {i a : Nat} {z : Int} (c : Nat) (hdg : decode M.2.1 pc = .ok (.iinc i z, 3)) (hl : lk L i = some (.int (nI a))) (hz : Int32.ofInt z = nI c) (hn : i < M.2.2.1) (hL : lset L i (.int (nI (a + c))) = L') (k : AW l G M fr lo mc ms Post n0 nc ns (pc + 3) L' S f n) : AW l G M fr lo mc ms Post n0 nc ns pc L S f n :=
  aw_iinc (v := nI (a + c)) hdg hl (by rw [hz, nI_add]) hn hL k
theorem aw_idec_n {i a : Nat} {z : Int} (h : 1 ≤ a) (hdg : decode M.2.1 pc = .ok (.iinc i z, 3)) (hl : lk L i = some (.int (nI a))) (hz : Int32.ofInt z = -1) (hn : i < M.2.2.1) (hL : lset L i (.int (nI (a - 1))) = L') (k : AW l G M fr lo mc ms Post n0 nc ns (pc + 3) L' S f n) : AW l G M fr lo mc ms Post n0 nc ns pc L S f n :=
  aw_iinc (v := nI (a - 1)) hdg hl (by
    obtain ⟨b, rfl⟩ : ∃ b, a = b + 1 := ⟨a - 1, by omega⟩
    rw [hz, pk_m1]; rfl) hn hL k
theorem nI_eq0 {a : Nat} (ha : a < 2 ^ 31) : nI a = 0 ↔ a = 0 := by
  have h := nI_eq (a := a) (b := 0) ha (by decide)
  rw [nI_0] at h
  exact h
theorem aw_if_eq_n {a : Nat} (ha : a < 2 ^ 31) {off : Int} {tgt : Nat} (hdg : decode M.2.1 pc = .ok (.ifCond .eq off, 3)) (ht : (pc : Int) + off = (tgt : Int)) (kt : a = 0 → AW l G M fr lo mc ms Post n0 nc ns tgt L S f n) (kf : a ≠ 0 → AW l G M fr lo mc ms Post n0 nc ns (pc + 3) L S f n) : AW l G M fr lo mc ms Post n0 nc ns pc L (.int (nI a) :: S) f n :=
  aw_if_eq hdg ht (fun h => kt ((nI_eq0 ha).mp h)) (fun h => kf fun z => h ((nI_eq0 ha).mpr z))
theorem aw_if_ne_n {a : Nat} (ha : a < 2 ^ 31) {off : Int} {tgt : Nat} (hdg : decode M.2.1 pc = .ok (.ifCond .ne off, 3)) (ht : (pc : Int) + off = (tgt : Int)) (kt : a ≠ 0 → AW l G M fr lo mc ms Post n0 nc ns tgt L S f n) (kf : a = 0 → AW l G M fr lo mc ms Post n0 nc ns (pc + 3) L S f n) : AW l G M fr lo mc ms Post n0 nc ns pc L (.int (nI a) :: S) f n :=
  aw_if_ne hdg ht (fun h => kt fun z => h ((nI_eq0 ha).mpr z)) (fun h => kf ((nI_eq0 ha).mp h))
theorem aw_if_gt_n {a : Nat} (ha : a < 2 ^ 31) {off : Int} {tgt : Nat} (hdg : decode M.2.1 pc = .ok (.ifCond .gt off, 3)) (ht : (pc : Int) + off = (tgt : Int)) (kt : 0 < a → AW l G M fr lo mc ms Post n0 nc ns tgt L S f n) (kf : a = 0 → AW l G M fr lo mc ms Post n0 nc ns (pc + 3) L S f n) : AW l G M fr lo mc ms Post n0 nc ns pc L (.int (nI a) :: S) f n :=
  aw_if_gt hdg ht (fun h => kt (Nat.pos_of_ne_zero fun z => by subst z; exact absurd h (by decide))) (fun h => kf (by
    rcases Nat.eq_zero_or_pos a with z | z
    · exact z
    · exact absurd (nI_0 ▸ nI_lt z ha) h))
theorem aw_if_le_n {a : Nat} (ha : a < 2 ^ 31) {off : Int} {tgt : Nat} (hdg : decode M.2.1 pc = .ok (.ifCond .le off, 3)) (ht : (pc : Int) + off = (tgt : Int)) (kt : a = 0 → AW l G M fr lo mc ms Post n0 nc ns tgt L S f n) (kf : 0 < a → AW l G M fr lo mc ms Post n0 nc ns (pc + 3) L S f n) : AW l G M fr lo mc ms Post n0 nc ns pc L (.int (nI a) :: S) f n :=
  aw_if_le hdg ht (fun h => kt (by
    rcases Nat.eq_zero_or_pos a with z | z
    · exact z
    · exact absurd h (nI_nle z ha))) (fun h => kf (Nat.pos_of_ne_zero fun z => by subst z; exact absurd (by decide) h))
theorem aw_if_lt_n {a : Nat} (ha : a < 2 ^ 31) {off : Int} (hdg : decode M.2.1 pc = .ok (.ifCond .lt off, 3)) {tgt : Nat} (ht : (pc : Int) + off = (tgt : Int)) (kf : AW l G M fr lo mc ms Post n0 nc ns (pc + 3) L S f n) : AW l G M fr lo mc ms Post n0 nc ns pc L (.int (nI a) :: S) f n :=
  aw_if_lt hdg ht (fun h => absurd h (nI_pos ha)) (fun _ => kf)
theorem aw_if_ge_n {a : Nat} (ha : a < 2 ^ 31) {off : Int} (hdg : decode M.2.1 pc = .ok (.ifCond .ge off, 3)) {tgt : Nat} (ht : (pc : Int) + off = (tgt : Int)) (kt : AW l G M fr lo mc ms Post n0 nc ns tgt L S f n) : AW l G M fr lo mc ms Post n0 nc ns pc L (.int (nI a) :: S) f n :=
  aw_if_ge hdg ht (fun _ => kt) (fun h => absurd (nI_pos' ha) h)
theorem aw_icmp_eq_n {a b : Nat} (ha : a < 2 ^ 31) (hb : b < 2 ^ 31) {off : Int} {tgt : Nat} (hdg : decode M.2.1 pc = .ok (.if_icmp .eq off, 3)) (ht : (pc : Int) + off = (tgt : Int)) (kt : a = b → AW l G M fr lo mc ms Post n0 nc ns tgt L S f n) (kf : a ≠ b → AW l G M fr lo mc ms Post n0 nc ns (pc + 3) L S f n) : AW l G M fr lo mc ms Post n0 nc ns pc L (.int (nI b) :: .int (nI a) :: S) f n :=
  aw_icmp_eq hdg ht (fun h => kt ((nI_eq ha hb).mp h)) (fun h => kf (fun z => h ((nI_eq ha hb).mpr z)))
theorem aw_icmp_ne_n {a b : Nat} (ha : a < 2 ^ 31) (hb : b < 2 ^ 31) {off : Int} {tgt : Nat} (hdg : decode M.2.1 pc = .ok (.if_icmp .ne off, 3)) (ht : (pc : Int) + off = (tgt : Int)) (kt : a ≠ b → AW l G M fr lo mc ms Post n0 nc ns tgt L S f n) (kf : a = b → AW l G M fr lo mc ms Post n0 nc ns (pc + 3) L S f n) : AW l G M fr lo mc ms Post n0 nc ns pc L (.int (nI b) :: .int (nI a) :: S) f n :=
  aw_icmp_ne hdg ht (fun h => kt (fun z => h ((nI_eq ha hb).mpr z))) (fun h => kf ((nI_eq ha hb).mp h))
theorem aw_icmp_lt_n {a b : Nat} (ha : a < 2 ^ 31) (hb : b < 2 ^ 31) {off : Int} {tgt : Nat} (hdg : decode M.2.1 pc = .ok (.if_icmp .lt off, 3)) (ht : (pc : Int) + off = (tgt : Int)) (kt : a < b → AW l G M fr lo mc ms Post n0 nc ns tgt L S f n) (kf : b ≤ a → AW l G M fr lo mc ms Post n0 nc ns (pc + 3) L S f n) : AW l G M fr lo mc ms Post n0 nc ns pc L (.int (nI b) :: .int (nI a) :: S) f n :=
  aw_icmp_lt hdg ht (fun h => kt ((nI_ltI ha hb).mp h)) (fun h => kf (Nat.le_of_not_lt fun z => h ((nI_ltI ha hb).mpr z)))
theorem aw_icmp_ge_n {a b : Nat} (ha : a < 2 ^ 31) (hb : b < 2 ^ 31) {off : Int} {tgt : Nat} (hdg : decode M.2.1 pc = .ok (.if_icmp .ge off, 3)) (ht : (pc : Int) + off = (tgt : Int)) (kt : b ≤ a → AW l G M fr lo mc ms Post n0 nc ns tgt L S f n) (kf : a < b → AW l G M fr lo mc ms Post n0 nc ns (pc + 3) L S f n) : AW l G M fr lo mc ms Post n0 nc ns pc L (.int (nI b) :: .int (nI a) :: S) f n :=
  aw_icmp_ge hdg ht (fun h => kt ((nI_leI hb ha).mp h)) (fun h => kf (Nat.lt_of_not_le fun z => h ((nI_leI hb ha).mpr z)))
theorem aw_icmp_gt_n {a b : Nat} (ha : a < 2 ^ 31) (hb : b < 2 ^ 31) {off : Int} {tgt : Nat} (hdg : decode M.2.1 pc = .ok (.if_icmp .gt off, 3)) (ht : (pc : Int) + off = (tgt : Int)) (kt : b < a → AW l G M fr lo mc ms Post n0 nc ns tgt L S f n) (kf : a ≤ b → AW l G M fr lo mc ms Post n0 nc ns (pc + 3) L S f n) : AW l G M fr lo mc ms Post n0 nc ns pc L (.int (nI b) :: .int (nI a) :: S) f n :=
  aw_icmp_gt hdg ht (fun h => kt ((nI_ltI hb ha).mp h)) (fun h => kf (Nat.le_of_not_lt fun z => h ((nI_ltI hb ha).mpr z)))
theorem aw_icmp_le_n {a b : Nat} (ha : a < 2 ^ 31) (hb : b < 2 ^ 31) {off : Int} {tgt : Nat} (hdg : decode M.2.1 pc = .ok (.if_icmp .le off, 3)) (ht : (pc : Int) + off = (tgt : Int)) (kt : a ≤ b → AW l G M fr lo mc ms Post n0 nc ns tgt L S f n) (kf : b < a → AW l G M fr lo mc ms Post n0 nc ns (pc + 3) L S f n) : AW l G M fr lo mc ms Post n0 nc ns pc L (.int (nI b) :: .int (nI a) :: S) f n :=
  aw_icmp_le hdg ht (fun h => kt ((nI_leI ha hb).mp h)) (fun h => kf (Nat.lt_of_not_le fun z => h ((nI_leI ha hb).mpr z)))
theorem aw_iald_n {a N k : Nat} {g : Nat → Int32} {v : Int32} (hf : f a = .inl (0, (N, .inl g))) (hk : k < N) (hN : N < 2 ^ 31) (hv : g k = v) (hdg : decode M.2.1 pc = .ok (.iaload, 1)) (k9 : AW l G M fr lo mc ms Post n0 nc ns (pc + 1) L (.int v :: S) f n) : AW l G M fr lo mc ms Post n0 nc ns pc L (.int (nI k) :: .ref a :: S) f n :=
  aw_iald hf (vp_in_nI hk hN) hdg (by rw [nI_clamp (Nat.lt_trans hk hN), hv]; exact k9)
theorem aw_cald_n {a N k : Nat} {g : Nat → Int32} {v : Int32} (hf : f a = .inl (1, (N, .inl g))) (hk : k < N) (hN : N < 2 ^ 31) (hv : g k = v) (hdg : decode M.2.1 pc = .ok (.caload, 1)) (k9 : AW l G M fr lo mc ms Post n0 nc ns (pc + 1) L (.int v :: S) f n) : AW l G M fr lo mc ms Post n0 nc ns pc L (.int (nI k) :: .ref a :: S) f n :=
  aw_cald hf (vp_in_nI hk hN) hdg (by rw [nI_clamp (Nat.lt_trans hk hN), hv]; exact k9)
theorem aw_iast_n {a N k : Nat} {g : Nat → Int32} {x : Int32} (hf : f a = .inl (0, (N, .inl g))) (hk : k < N) (hN : N < 2 ^ 31) (hdg : decode M.2.1 pc = .ok (.iastore, 1)) (k9 : AW l G M fr lo mc ms Post n0 nc ns (pc + 1) L S (va_up f a (.inl (0, (N, .inl (upd g k x))))) n) : AW l G M fr lo mc ms Post n0 nc ns pc L (.int x :: .int (nI k) :: .ref a :: S) f n :=
  aw_iast hf (vp_in_nI hk hN) hdg (by rw [nI_clamp (Nat.lt_trans hk hN)]; exact k9)
theorem aw_cast_n {a N k : Nat} {g : Nat → Int32} {x : Int32} (hf : f a = .inl (1, (N, .inl g))) (hk : k < N) (hN : N < 2 ^ 31) (hx : vp_nar .char x = x) (hdg : decode M.2.1 pc = .ok (.castore, 1)) (k9 : AW l G M fr lo mc ms Post n0 nc ns (pc + 1) L S (va_up f a (.inl (1, (N, .inl (upd g k x))))) n) : AW l G M fr lo mc ms Post n0 nc ns pc L (.int x :: .int (nI k) :: .ref a :: S) f n :=
  aw_cast hf (vp_in_nI hk hN) hdg (by rw [nI_clamp (Nat.lt_trans hk hN), hx]; exact k9)
end NR
/-! a region of the heap: w cells from o on -/
def rU (f : HT) (o w : Nat) (C : Nat → va_E) : HT := fun a => if o ≤ a ∧ a < o + w then C (a - o) else f a
theorem rU_at {f : HT} {o w : Nat} {C : Nat → va_E} (j : Nat) (h : j < w) : rU f o w C (o + j) = C j := by
  have e : o + j - o = j := by omega
  simp only [rU]
  rw [if_pos (by omega), e]
theorem rU_out {f : HT} {o w : Nat} {C : Nat → va_E} {a : Nat} (h : a < o ∨ o + w ≤ a) : rU f o w C a = f a := by
  simp only [rU]
  rw [if_neg (by omega)]
theorem rU_up {f : HT} {o w : Nat} {C : Nat → va_E} (j : Nat) (h : j < w) (c : va_E) : va_up (rU f o w C) (o + j) c = rU f o w (va_up C j c) := by
  funext a
  by_cases ha : a = o + j
  · subst ha
    rw [up_self, rU_at j h, up_self]
  · rw [up_ne ha]
    by_cases hi : o ≤ a ∧ a < o + w
    · obtain ⟨k, rfl⟩ : ∃ k, a = o + k := ⟨a - o, by omega⟩
      rw [rU_at k (by omega), rU_at k (by omega), up_ne (by omega)]
    · rw [rU_out (by omega), rU_out (by omega)]
theorem rU_rU {f : HT} {o w : Nat} {C C' : Nat → va_E} : rU (rU f o w C) o w C' = rU f o w C' := by
  funext a
  by_cases hi : o ≤ a ∧ a < o + w
  · simp only [rU]; rw [if_pos hi, if_pos hi]
  · rw [rU_out (by omega), rU_out (by omega), rU_out (by omega)]
theorem rU_self {f : HT} {o w : Nat} {C : Nat → va_E} (h : ∀ j, j < w → f (o + j) = C j) : rU f o w C = f := by
  funext a
  by_cases hi : o ≤ a ∧ a < o + w
  · obtain ⟨k, rfl⟩ : ∃ k, a = o + k := ⟨a - o, by omega⟩
    rw [rU_at k (by omega), h k (by omega)]
  · rw [rU_out (by omega)]
theorem rU_comm {f : HT} {o w o2 w2 : Nat} {C C2 : Nat → va_E} (h : o + w ≤ o2 ∨ o2 + w2 ≤ o) : rU (rU f o w C) o2 w2 C2 = rU (rU f o2 w2 C2) o w C := by
  funext a
  by_cases h1 : o ≤ a ∧ a < o + w
  · by_cases h2 : o2 ≤ a ∧ a < o2 + w2
    · omega
    · rw [rU_out (by omega)]
      obtain ⟨k, rfl⟩ : ∃ k, a = o + k := ⟨a - o, by omega⟩
      rw [rU_at k (by omega), rU_at k (by omega)]
  · rw [rU_out (C := C) (o := o) (by omega)]
    by_cases h2 : o2 ≤ a ∧ a < o2 + w2
    · obtain ⟨k, rfl⟩ : ∃ k, a = o2 + k := ⟨a - o2, by omega⟩
      rw [rU_at k (by omega), rU_at k (by omega)]
    · rw [rU_out (by omega), rU_out (by omega), rU_out (by omega)]
