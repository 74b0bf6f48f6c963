/-! the class' world: gym x, state x+1, beforeProgram x+10, snapshot x+19, history x+28, forecast x+102, relay x+104, program x+106, card x+111 with its bytes at bp -/
theorem sAt.fr {H f : HT} {o : Nat} {J : Nat → Int32} {B : Nat → Nat → Int32} (h : sAt H o J B) (e : ∀ a, o ≤ a → a < o + 9 → f a = H a) : sAt f o J B := fun j hj => (e (o + j) (by omega) (by omega)).trans (h j hj)
def kAt (H : HT) (ci N r : Nat) (T : Nat → Int32) : Prop := H r = .inr (ci, [.ref (r + 1)]) ∧ H (r + 1) = .inl (0, (N, .inl T))
theorem kAt.self {H : HT} {ci N r : Nat} {T : Nat → Int32} (h : kAt H ci N r T) : kU ci N H r T = H := rU_self fun j hj => by
  rcases (by omega : j = 0 ∨ j = 1) with rfl | rfl
  · exact h.1
  · exact h.2
theorem kAt.new {H : HT} {ci N r : Nat} {T : Nat → Int32} : kAt (kU ci N H r T) ci N r T := ⟨kU_0, kU_1⟩
theorem kAt.fr {H f : HT} {ci N r : Nat} {T : Nat → Int32} (h : kAt H ci N r T) (e : ∀ a, r ≤ a → a < r + 2 → f a = H a) : kAt f ci N r T := ⟨(e r (Nat.le_refl _) (by omega)).trans h.1, (e (r + 1) (by omega) (by omega)).trans h.2⟩
def pAt (H : HT) (o : Nat) (I : Nat → Int32) (A : Nat → Nat → Int32) (g : Nat → Option Nat) : Prop := ∀ j, j < 5 → H (o + j) = pC o I A g j
theorem pAt.self {H : HT} {o : Nat} {I : Nat → Int32} {A : Nat → Nat → Int32} {g : Nat → Option Nat} (h : pAt H o I A g) : pU H o I A g = H := rU_self h
theorem pAt.new {H : HT} {o : Nat} {I : Nat → Int32} {A : Nat → Nat → Int32} {g : Nat → Option Nat} : pAt (pU H o I A g) o I A g := fun j hj => rU_at j hj
theorem pAt.fr {H f : HT} {o : Nat} {I : Nat → Int32} {A : Nat → Nat → Int32} {g : Nat → Option Nat} (h : pAt H o I A g) (e : ∀ a, o ≤ a → a < o + 5 → f a = H a) : pAt f o I A g := fun j hj => (e (o + j) (by omega) (by omega)).trans (h j hj)
theorem pAt.obj {H : HT} {o : Nat} {I : Nat → Int32} {A : Nat → Nat → Int32} {g : Nat → Option Nat} (h : pAt H o I A g) : H o = .inr (3, pFs o I) := h 0 (by decide)
theorem bK.fr {H f : HT} {c bp n n' m : Nat} {L : List Nat} (h : bK H c bp n L m) (e0 : f c = H c) (e1 : f bp = H bp) (hn : n ≤ n') : bK f c bp n' L m := by
  obtain ⟨N, B, ml, b0, b1, hN, hL, hm, hne, hcn, hbn, hB, hq⟩ := h
  exact ⟨N, B, ml, e0.trans b0, e1.trans b1, hN, hL, hm, hne, by omega, by omega, hB, hq⟩
/-- the ring of the history: k kept states, Hs 0 the eldest -/
def hAt (H : HT) (h k : Nat) (Hs : Nat → Nat → Nat) : Prop := ∃ (a : Nat) (g : Nat → Option Nat), a < 8 ∧ k ≤ 8 ∧ H h = hcell h a k ∧ H (h + 1) = hring g ∧ (∀ i, i < 8 → g i = some (h + 2 + 9 * i)) ∧ (∀ i, i < 8 → ∃ (J : Nat → Int32) (B : Nat → Nat → Int32), sAt H (h + 2 + 9 * i) J B) ∧ ∀ j, j < k → ∃ (J : Nat → Int32) (B : Nat → Nat → Int32), sAt H (h + 2 + 9 * ((a + 8 - k + j) % 8)) J B ∧ SV J B (Hs j)
theorem hAt.fr {H f : HT} {h k : Nat} {Hs : Nat → Nat → Nat} (hh : hAt H h k Hs) (e : ∀ a, h ≤ a → a < h + 74 → f a = H a) : hAt f h k Hs := by
  obtain ⟨a, g, ha, hk, h0, h1, hg, hs, hr⟩ := hh
  refine ⟨a, g, ha, hk, (e h (Nat.le_refl _) (by omega)).trans h0, (e (h + 1) (by omega) (by omega)).trans h1, hg, fun i hi => ?_, fun j hj => ?_⟩
  · obtain ⟨J, B, h9⟩ := hs i hi
    exact ⟨J, B, h9.fr fun a h1 h2 => e a (by omega) (by omega)⟩
  · obtain ⟨J, B, h9, h8⟩ := hr j hj
    exact ⟨J, B, h9.fr fun a h1 h2 => e a (by omega) (by omega), h8⟩
theorem hAt.push {H : HT} {h k a : Nat} {Hs : Nat → Nat → Nat} {V : Nat → Nat} {g : Nat → Option Nat} {J J2 : Nat → Int32} {B B2 : Nat → Nat → Int32} (ha : a < 8) (hk : k ≤ 8) (h1 : H (h + 1) = hring g) (hg : ∀ i, i < 8 → g i = some (h + 2 + 9 * i)) (hs : ∀ i, i < 8 → ∃ (J : Nat → Int32) (B : Nat → Nat → Int32), sAt H (h + 2 + 9 * i) J B) (hr : ∀ j, j < k → ∃ (J : Nat → Int32) (B : Nat → Nat → Int32), sAt H (h + 2 + 9 * ((a + 8 - k + j) % 8)) J B ∧ SV J B (Hs j))
    (hS : SV (cpJ J J2) (cpB B B2) V) {f : HT} (hf : f = va_up (sU H (h + 2 + 9 * a) (cpJ J J2) (cpB B B2)) h (hcell h (if a + 1 < 8 then a + 1 else 0) (min (k + 1) 8))) : hAt f h (pushH k Hs V).1 (pushH k Hs V).2 := by
  have hold : ∀ {i : Nat} {J0 : Nat → Int32} {B0 : Nat → Nat → Int32}, i ≠ a → i < 8 → sAt H (h + 2 + 9 * i) J0 B0 → sAt f (h + 2 + 9 * i) J0 B0 := fun {i J0 B0} h7 h6 h9 => by rw [hf]; exact (h9.out (by omega)).up (by omega)
  have hnew : sAt f (h + 2 + 9 * a) (cpJ J J2) (cpB B B2) := by rw [hf]; exact sAt.new.up (by omega)
  have hf0 : f h = hcell h (if a + 1 < 8 then a + 1 else 0) (min (k + 1) 8) := by rw [hf]; exact up_self
  have hf1 : f (h + 1) = hring g := by rw [hf]; exact (up_ne (by omega)).trans ((rU_out (by omega)).trans h1)
  have e1 : (pushH k Hs V).1 = min (k + 1) 8 := by
    unfold pushH
    split
    · next z => rw [z]; rfl
    · show k + 1 = _; omega
  rw [e1]
  refine ⟨if a + 1 < 8 then a + 1 else 0, g, by split <;> omega, by omega, hf0, hf1, hg, fun i hi => ?_, fun j hj => ?_⟩
  · by_cases z : i = a
    · rw [z]; exact ⟨_, _, hnew⟩
    · obtain ⟨J0, B0, h9⟩ := hs i hi
      exact ⟨J0, B0, hold z hi h9⟩
  · have ea : (if a + 1 < 8 then a + 1 else 0) = (a + 1) % 8 := by split <;> omega
    rw [ea]
    by_cases z : k = 8
    · have e2 : (pushH k Hs V).2 = va_up (fun j => Hs (j + 1)) 7 V := by unfold pushH; rw [if_pos z]
      rw [e2]
      have em : min (k + 1) 8 = 8 := by omega
      rw [em] at hj ⊢
      by_cases zj : j = 7
      · have ei : ((a + 1) % 8 + 8 - 8 + j) % 8 = a := by omega
        rw [ei, zj, up_self]
        exact ⟨_, _, hnew, hS⟩
      · have ei : ((a + 1) % 8 + 8 - 8 + j) % 8 = (a + 8 - k + (j + 1)) % 8 := by omega
        rw [ei, up_ne zj]
        obtain ⟨J0, B0, h9, h8⟩ := hr (j + 1) (by omega)
        exact ⟨J0, B0, hold (by omega) (by omega) h9, h8⟩
    · have e2 : (pushH k Hs V).2 = va_up Hs k V := by unfold pushH; rw [if_neg z]
      rw [e2]
      have em : min (k + 1) 8 = k + 1 := by omega
      rw [em] at hj ⊢
      by_cases zj : j = k
      · have ei : ((a + 1) % 8 + 8 - (k + 1) + j) % 8 = a := by omega
        rw [ei, zj, up_self]
        exact ⟨_, _, hnew, hS⟩
      · have ei : ((a + 1) % 8 + 8 - (k + 1) + j) % 8 = (a + 8 - k + j) % 8 := by omega
        rw [ei, up_ne zj]
        obtain ⟨J0, B0, h9, h8⟩ := hr j (by omega)
        exact ⟨J0, B0, hold (by omega) (by omega) h9, h8⟩
theorem hAt.pop {H f : HT} {h k a b9 : Nat} {Hs : Nat → Nat → Nat} {g : Nat → Option Nat} (ha : a < 8) (hk1 : 1 ≤ k) (hk : k ≤ 8) (hb : b9 = (if 0 < a then a - 1 else 7)) (h0 : f h = hcell h b9 (k - 1)) (h1 : H (h + 1) = hring g) (hg : ∀ i, i < 8 → g i = some (h + 2 + 9 * i)) (hs : ∀ i, i < 8 → ∃ (J : Nat → Int32) (B : Nat → Nat → Int32), sAt H (h + 2 + 9 * i) J B) (hr : ∀ j, j < k → ∃ (J : Nat → Int32) (B : Nat → Nat → Int32), sAt H (h + 2 + 9 * ((a + 8 - k + j) % 8)) J B ∧ SV J B (Hs j)) (e : ∀ a, h < a → a < h + 74 → f a = H a) : hAt f h (k - 1) Hs := by
  have eb : b9 = (a + 7) % 8 := by rw [hb]; split <;> omega
  refine ⟨b9, g, by omega, by omega, h0, (e (h + 1) (by omega) (by omega)).trans h1, hg, fun i hi => ?_, fun j hj => ?_⟩
  · obtain ⟨J, B, h9⟩ := hs i hi
    exact ⟨J, B, h9.fr fun a h1 h2 => e a (by omega) (by omega)⟩
  · obtain ⟨J, B, h9, h8⟩ := hr j (by omega)
    have ei : (b9 + 8 - (k - 1) + j) % 8 = (a + 8 - k + j) % 8 := by omega
    rw [ei]
    exact ⟨J, B, h9.fr fun a h1 h2 => e a (by omega) (by omega), h8⟩
/-- the gym's own cell -/
abbrev gC (x : Nat) (sv : Bool) (e1 e2 : Int32) : va_E := .inr (6, [.ref (x + 1), .ref (x + 10), .ref (x + 19), .ref (x + 28), .ref (x + 102), .ref (x + 104), .ref (x + 106), .ref (x + 111), .int (bI sv), .int e1, .int e2])
def cdAt (H : HT) (c bp n : Nat) (q : Nat × (Nat → Nat)) : Prop := ∃ L : List Nat, bK H c bp n L 0 ∧ L.length = q.1 ∧ ∀ i, i < L.length → L.getD i 0 = q.2 i
def GW (H : HT) (x bp n : Nat) (s : SG) : Prop :=
  H x = gC x s.2.2.1.1 s.2.2.2.2.1.1 s.2.2.2.2.1.2 ∧
  (∃ (J : Nat → Int32) (B : Nat → Nat → Int32), sAt H (x + 1) J B ∧ SV J B s.1) ∧
  (∃ (J : Nat → Int32) (B : Nat → Nat → Int32), sAt H (x + 10) J B) ∧
  (∃ (J : Nat → Int32) (B : Nat → Nat → Int32), sAt H (x + 19) J B ∧ (s.2.2.1.1 = true → SV J B s.2.2.1.2)) ∧
  hAt H (x + 28) s.2.1.1 s.2.1.2 ∧
  (∃ T : Nat → Int32, kAt H 1 61 (x + 102) T) ∧ (∃ T : Nat → Int32, kAt H 4 256 (x + 104) T) ∧
  (∃ (I : Nat → Int32) (A : Nat → Nat → Int32) (g : Nat → Option Nat), pAt H (x + 106) I A g ∧ TP9 I A s.2.2.2.1.1 s.2.2.2.1.2) ∧
  cdAt H (x + 111) bp n s.2.2.2.2.2 ∧ o0 ≤ x ∧ x + 112 ≤ bp
/-- nothing of the world changed -/
theorem GW.fr {H f : HT} {x bp n n' : Nat} {s : SG} (h : GW H x bp n s) (e : ∀ a, x ≤ a → a < x + 112 → f a = H a) (e1 : f bp = H bp) (hn : n ≤ n') : GW f x bp n' s := by
  obtain ⟨h0, ⟨J, B, h1, h1'⟩, ⟨J2, B2, h2⟩, ⟨J3, B3, h3, h3'⟩, h4, ⟨T, h5⟩, ⟨T', h6⟩, ⟨I, A, g, h7, h7'⟩, ⟨L, h8, h8', h8''⟩, h9⟩ := h
  refine ⟨(e x (Nat.le_refl _) (by omega)).trans h0, ⟨J, B, h1.fr fun a _ _ => e a (by omega) (by omega), h1'⟩, ⟨J2, B2, h2.fr fun a _ _ => e a (by omega) (by omega)⟩, ⟨J3, B3, h3.fr fun a _ _ => e a (by omega) (by omega), h3'⟩, h4.fr fun a _ _ => e a (by omega) (by omega), ⟨T, h5.fr fun a _ _ => e a (by omega) (by omega)⟩, ⟨T', h6.fr fun a _ _ => e a (by omega) (by omega)⟩, ⟨I, A, g, h7.fr fun a _ _ => e a (by omega) (by omega), h7'⟩, ⟨L, h8.fr (e _ (by omega) (by omega)) e1 hn, h8', h8''⟩, h9⟩
/-- one part of the world changed, the others stay -/
theorem GW.mk9 {H f : HT} {x bp n : Nat} {s s' : SG} {lo hi : Nat} (h : GW H x bp n s) (hlo : x ≤ lo) (hhi : hi ≤ x + 112) (e : ∀ a, (a < lo ∨ hi ≤ a) → f a = H a)
    (h0 : f x = gC x s'.2.2.1.1 s'.2.2.2.2.1.1 s'.2.2.2.2.1.2)
    (h1 : (∃ (J : Nat → Int32) (B : Nat → Nat → Int32), sAt f (x + 1) J B ∧ SV J B s'.1) ∨ (s'.1 = s.1 ∧ (hi ≤ x + 1 ∨ x + 10 ≤ lo)))
    (h2 : (∃ (J : Nat → Int32) (B : Nat → Nat → Int32), sAt f (x + 10) J B) ∨ (hi ≤ x + 10 ∨ x + 19 ≤ lo))
    (h3 : (∃ (J : Nat → Int32) (B : Nat → Nat → Int32), sAt f (x + 19) J B ∧ (s'.2.2.1.1 = true → SV J B s'.2.2.1.2)) ∨ (s'.2.2.1 = s.2.2.1 ∧ (hi ≤ x + 19 ∨ x + 28 ≤ lo)))
    (h4 : hAt f (x + 28) s'.2.1.1 s'.2.1.2 ∨ (s'.2.1 = s.2.1 ∧ (hi ≤ x + 28 ∨ x + 102 ≤ lo)))
    (h5 : (∃ T : Nat → Int32, kAt f 1 61 (x + 102) T) ∨ (hi ≤ x + 102 ∨ x + 104 ≤ lo)) (h6 : (∃ T : Nat → Int32, kAt f 4 256 (x + 104) T) ∨ (hi ≤ x + 104 ∨ x + 106 ≤ lo))
    (h7 : (∃ (I : Nat → Int32) (A : Nat → Nat → Int32) (g : Nat → Option Nat), pAt f (x + 106) I A g ∧ TP9 I A s'.2.2.2.1.1 s'.2.2.2.1.2) ∨ (s'.2.2.2.1 = s.2.2.2.1 ∧ (hi ≤ x + 106 ∨ x + 111 ≤ lo)))
    (h8 : s'.2.2.2.2.2 = s.2.2.2.2.2 ∧ hi ≤ x + 111) : GW f x bp n s' := by
  obtain ⟨_, ⟨J, B, g1, g1'⟩, ⟨J2, B2, g2⟩, ⟨J3, B3, g3, g3'⟩, g4, ⟨T, g5⟩, ⟨T', g6⟩, ⟨I, A, g, g7, g7'⟩, ⟨L, g8, g8', g8''⟩, g9⟩ := h
  refine ⟨h0, ?_, ?_, ?_, ?_, ?_, ?_, ?_, ⟨L, g8.fr (e _ (by omega)) (e _ (by omega)) (Nat.le_refl _), by rw [h8.1]; exact g8', by rw [h8.1]; exact g8''⟩, g9⟩
  · rcases h1 with h1 | ⟨h1, hd⟩
    · exact h1
    · rw [h1]; exact ⟨J, B, g1.fr fun a _ _ => e a (by omega), g1'⟩
  · rcases h2 with h2 | hd
    · exact h2
    · exact ⟨J2, B2, g2.fr fun a _ _ => e a (by omega)⟩
  · rcases h3 with h3 | ⟨h3, hd⟩
    · exact h3
    · rw [h3]; exact ⟨J3, B3, g3.fr fun a _ _ => e a (by omega), g3'⟩
  · rcases h4 with h4 | ⟨h4, hd⟩
    · exact h4
    · rw [h4]; exact g4.fr fun a _ _ => e a (by omega)
  · rcases h5 with h5 | hd
    · exact h5
    · exact ⟨T, g5.fr fun a _ _ => e a (by omega)⟩
  · rcases h6 with h6 | hd
    · exact h6
    · exact ⟨T', g6.fr fun a _ _ => e a (by omega)⟩
  · rcases h7 with h7 | ⟨h7, hd⟩
    · exact h7
    · rw [h7]; exact ⟨I, A, g, g7.fr fun a _ _ => e a (by omega), g7'⟩
/-- the answer, or an exception by the code's class -/
def xA (es : List String) (c : Nat) (v : Value) : Option Value ⊕ String := if c = 0 then .inl (some v) else .inr (es.getD (c - 1) "")
/-- a question answered, nothing changed -/
def GQ (es : List String) (q : Nat × Nat) (H : HT) (n : Nat) : PT := fun r f' n' => r = xA es q.1 (.int (nI q.2)) ∧ f' = H ∧ n' = n
/-- a call of the class: the state behind it is s' -/
def GX (es : List String) (c : Nat) (v : Value) (x bp : Nat) (H : HT) (n : Nat) (s' : SG) : PT := fun r f' n' => r = xA es c v ∧ n ≤ n' ∧ ∃ bp', (bp' = bp ∨ n ≤ bp') ∧ GW f' x bp' n' s' ∧ ∀ a, a < n → (a < x ∨ x + 112 ≤ a) → a ≠ bp → f' a = H a
