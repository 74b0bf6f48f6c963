theorem aw_hh {l : Launch} {G : GT} {M : MT} {fr lo mc ms : Nat} {Post : PT} {n0 nc ns pc : Nat} {L : List (Nat × Value)} {S : List Value} {f f' : HT} {n n' : Nat} (h : f = f') (hn : n = n') (k : AW l G M fr lo mc ms Post n0 nc ns pc L S f' n') : AW l G M fr lo mc ms Post n0 nc ns pc L S f n := by subst h; subst hn; exact k
section RW10
variable {l : Launch} {G : GT} {M : MT} {fr lo mc ms : Nat} {Post : PT} {n0 nc ns pc : Nat} {L : List (Nat × Value)} {f : HT} {n : Nat}
theorem aw_iP {y : MethodName} {cc' : ByteArray} {nL' kk ix a fr' lo' mc' ms' : Nat} {as rest st : List Value} {P' : PT} (hM : MI y cc' nL' kk) (hA : AM l G y (.code y cc' nL' none) fr' lo' mc' ms' (.ref a :: as) f n P') (hl : Cond.methodLink M.1 ix y ∈ Big)
    (hdg : decode M.2.1 pc = .ok (.invokespecial ix, 3)) (hst : as.reverse ++ .ref a :: rest = st) (hk : as.length = kk) (hR : fr' + 1 ≤ fr ∧ 8 + (nL' + 11) + lo' ≤ lo) (hcat : (rest.map fun v => v.category).sum ≤ 8) (hc : nc + mc' ≤ mc ∧ ns + ms' ≤ ms) (hno : ∀ (E : String) (f' : HT) (n' : Nat), ¬ P' (.inr E) f' n')
    (k : ∀ (r : Option Value) (f' : HT) (n' : Nat), n ≤ n' → P' (.inl r) f' n' → AW l G M fr lo mc ms Post n0 (nc + mc') (ns + ms') (pc + 3) L (r.toList ++ rest) f' n') : AW l G M fr lo mc ms Post n0 nc ns pc L st f n := by
  subst hst
  exact aw_crP (cr_I hM hA hl hdg hk hR hcat hc) sub_app hno k
end RW10
def GI9 (H : HT) (x : Nat) : PT := fun r f' n' => r = .inl none ∧ n' = x + 113 ∧ GW f' x (x + 112) (x + 113) sg0 ∧ ∀ a, a < x → f' a = H a
abbrev MX10_init : MT := (RX10, cX10_init, 1, none, [], "<init>")
set_option maxHeartbeats 4000000 in
theorem g_init {l : Launch} {G : GT} {H : HT} {x : Nat} (hox : o0 ≤ x) (h0 : H x = .inr (6, [.null, .null, .null, .null, .null, .null, .null, .null, .int 0, .int 0, .int 0])) : AM l G yX10_init (.code yX10_init cX10_init 1 none) 3 180 112 1301 [.ref x] H (x + 1) (GI9 H x) := by
  refine aw_enter (M := MX10_init) rfl rfl (by decide +kernel) rfl (Nat.le_of_ble_eq_true rfl) ?_
  show AW l G MX10_init 3 180 112 1301 _ (x + 1) 0 0 0 [(0, .ref x)] [] _ (x + 1)
  refine aw_aload_n dX10_init_0 rfl rfl ?_
  refine aw_objInit ml_X10_1 (by decide) (by decide) dX10_init_1 ?_
  have e0 : ∀ a, a < x → H a = H a := fun _ _ => rfl
  refine aw_aload_n dX10_init_4 rfl rfl ?_
  refine aw_new fn_X10_7 zv_8 (by decide) (by decide) dX10_init_5 ?_
  refine aw_dup dX10_init_8 rfl ?_
  refine aw_nV (as := []) (rest := [.ref (x + 1), .ref x]) mI_X8_init (s_initH up_self) nl_X10_9 dX10_init_9 rfl rfl (by decide) (Nat.le_of_ble_eq_true rfl) (by decide) ?_
  refine aw_putF ff_X10_10 rfl (((rU_out (by omega)).trans (up_ne (by omega))).trans h0) (fun _ => rfl) (fun _ => rfl) (Nat.le_of_ble_eq_true rfl) dX10_init_12 ?_
  obtain ⟨f1, hf1⟩ : ∃ g9, va_up (sU (va_up H (x + 1) (.inr (5, [.null, .null, .null, .null, .null, .null, .null, .null, .int 0, .int 0, .int 0, .int 0]))) (x + 1) J00 B00) x (.inr (6, [.ref (x + 1), .null, .null, .null, .null, .null, .null, .null, .int 0, .int 0, .int 0])) = g9 := ⟨_, rfl⟩
  refine aw_hh hf1 (n' := x + 10) rfl ?_
  have hx1 : f1 x = .inr (6, [.ref (x + 1), .null, .null, .null, .null, .null, .null, .null, .int 0, .int 0, .int 0]) := by rw [← hf1]; exact up_self
  have c1 : ∀ a, a ≠ x → a < x + 1 → f1 a = H a := fun a h1 h2 => by rw [← hf1]; exact (up_ne h1).trans ((rU_out (by omega)).trans (up_ne (by omega)))
  have e1 : ∀ a, a < x → f1 a = H a := fun a ha => (c1 a (by omega) (by omega)).trans (e0 a ha)
  have s1 : sAt f1 (x + 1) J00 B00 := by rw [← hf1]; exact sAt.new.up (by omega)
  refine aw_aload_n dX10_init_15 rfl rfl ?_
  refine aw_new fn_X10_7 zv_8 (by decide) (by decide) dX10_init_16 ?_
  refine aw_dup dX10_init_19 rfl ?_
  refine aw_nV (as := []) (rest := [.ref (x + 10), .ref x]) mI_X8_init (s_initH up_self) nl_X10_9 dX10_init_20 rfl rfl (by decide) (Nat.le_of_ble_eq_true rfl) (by decide) ?_
  refine aw_putF ff_X10_16 rfl (((rU_out (by omega)).trans (up_ne (by omega))).trans hx1) (fun _ => rfl) (fun _ => rfl) (Nat.le_of_ble_eq_true rfl) dX10_init_23 ?_
  obtain ⟨f2, hf2⟩ : ∃ g9, va_up (sU (va_up f1 (x + 10) (.inr (5, [.null, .null, .null, .null, .null, .null, .null, .null, .int 0, .int 0, .int 0, .int 0]))) (x + 10) J00 B00) x (.inr (6, [.ref (x + 1), .ref (x + 10), .null, .null, .null, .null, .null, .null, .int 0, .int 0, .int 0])) = g9 := ⟨_, rfl⟩
  refine aw_hh hf2 (n' := x + 19) rfl ?_
  have hx2 : f2 x = .inr (6, [.ref (x + 1), .ref (x + 10), .null, .null, .null, .null, .null, .null, .int 0, .int 0, .int 0]) := by rw [← hf2]; exact up_self
  have c2 : ∀ a, a ≠ x → a < x + 10 → f2 a = f1 a := fun a h1 h2 => by rw [← hf2]; exact (up_ne h1).trans ((rU_out (by omega)).trans (up_ne (by omega)))
  have e2 : ∀ a, a < x → f2 a = H a := fun a ha => (c2 a (by omega) (by omega)).trans (e1 a ha)
  have s1 := s1.fr (f := f2) (fun a h1 h2 => c2 a (by omega) (by omega))
  have s10 : sAt f2 (x + 10) J00 B00 := by rw [← hf2]; exact sAt.new.up (by omega)
  refine aw_aload_n dX10_init_26 rfl rfl ?_
  refine aw_new fn_X10_7 zv_8 (by decide) (by decide) dX10_init_27 ?_
  refine aw_dup dX10_init_30 rfl ?_
  refine aw_nV (as := []) (rest := [.ref (x + 19), .ref x]) mI_X8_init (s_initH up_self) nl_X10_9 dX10_init_31 rfl rfl (by decide) (Nat.le_of_ble_eq_true rfl) (by decide) ?_
  refine aw_putF ff_X10_19 rfl (((rU_out (by omega)).trans (up_ne (by omega))).trans hx2) (fun _ => rfl) (fun _ => rfl) (Nat.le_of_ble_eq_true rfl) dX10_init_34 ?_
  obtain ⟨f3, hf3⟩ : ∃ g9, va_up (sU (va_up f2 (x + 19) (.inr (5, [.null, .null, .null, .null, .null, .null, .null, .null, .int 0, .int 0, .int 0, .int 0]))) (x + 19) J00 B00) x (.inr (6, [.ref (x + 1), .ref (x + 10), .ref (x + 19), .null, .null, .null, .null, .null, .int 0, .int 0, .int 0])) = g9 := ⟨_, rfl⟩
  refine aw_hh hf3 (n' := x + 28) rfl ?_
  have hx3 : f3 x = .inr (6, [.ref (x + 1), .ref (x + 10), .ref (x + 19), .null, .null, .null, .null, .null, .int 0, .int 0, .int 0]) := by rw [← hf3]; exact up_self
  have c3 : ∀ a, a ≠ x → a < x + 19 → f3 a = f2 a := fun a h1 h2 => by rw [← hf3]; exact (up_ne h1).trans ((rU_out (by omega)).trans (up_ne (by omega)))
  have e3 : ∀ a, a < x → f3 a = H a := fun a ha => (c3 a (by omega) (by omega)).trans (e2 a ha)
  have s1 := s1.fr (f := f3) (fun a h1 h2 => c3 a (by omega) (by omega))
  have s10 := s10.fr (f := f3) (fun a h1 h2 => c3 a (by omega) (by omega))
  have s19 : sAt f3 (x + 19) J00 B00 := by rw [← hf3]; exact sAt.new.up (by omega)
  refine aw_aload_n dX10_init_37 rfl rfl ?_
  refine aw_new fn_X10_22 (zv_all rfl) (by decide) (by decide) dX10_init_38 ?_
  refine aw_dup dX10_init_41 rfl ?_
  refine aw_iP (as := []) (rest := [.ref (x + 28), .ref x]) mI_X2_init (h_init up_self) ml_X10_24 dX10_init_42 rfl rfl (by decide) (Nat.le_of_ble_eq_true rfl) (by decide) (fun _ _ _ h => by cases h.1) (fun r9 f9 n9 _ h9 => ?_)
  obtain ⟨q1, q2, hh9, hF9⟩ := h9
  cases q1; subst q2
  refine aw_putF ff_X10_25 rfl (((hF9 x (by omega)).trans (up_ne (by omega))).trans hx3) (fun _ => rfl) (fun _ => rfl) (Nat.le_of_ble_eq_true rfl) dX10_init_45 ?_
  obtain ⟨f4, hf4⟩ : ∃ g9, va_up (f9) x (.inr (6, [.ref (x + 1), .ref (x + 10), .ref (x + 19), .ref (x + 28), .null, .null, .null, .null, .int 0, .int 0, .int 0])) = g9 := ⟨_, rfl⟩
  refine aw_hh hf4 (n' := x + 102) rfl ?_
  have hx4 : f4 x = .inr (6, [.ref (x + 1), .ref (x + 10), .ref (x + 19), .ref (x + 28), .null, .null, .null, .null, .int 0, .int 0, .int 0]) := by rw [← hf4]; exact up_self
  have c4 : ∀ a, a ≠ x → a < x + 28 → f4 a = f3 a := fun a h1 h2 => by rw [← hf4]; exact (up_ne h1).trans ((hF9 a (by omega)).trans (up_ne (by omega)))
  have e4 : ∀ a, a < x → f4 a = H a := fun a ha => (c4 a (by omega) (by omega)).trans (e3 a ha)
  have s1 := s1.fr (f := f4) (fun a h1 h2 => c4 a (by omega) (by omega))
  have s10 := s10.fr (f := f4) (fun a h1 h2 => c4 a (by omega) (by omega))
  have s19 := s19.fr (f := f4) (fun a h1 h2 => c4 a (by omega) (by omega))
  have hh28 : ∀ Hs, hAt f4 (x + 28) 0 Hs := fun Hs => by rw [← hf4]; exact (hh9 Hs).fr (fun a h1 h2 => up_ne (by omega))
  refine aw_aload_n dX10_init_48 rfl rfl ?_
  refine aw_new fn_X10_29 (zv_all rfl) (by decide) (by decide) dX10_init_49 ?_
  refine aw_dup dX10_init_52 rfl ?_
  refine aw_nV (as := []) (rest := [.ref (x + 102), .ref x]) mI_X1_init (f_init up_self) nl_X10_31 dX10_init_53 rfl rfl (by decide) (Nat.le_of_ble_eq_true rfl) (by decide) ?_
  refine aw_putF ff_X10_32 rfl (((rU_out (by omega)).trans (up_ne (by omega))).trans hx4) (fun _ => rfl) (fun _ => rfl) (Nat.le_of_ble_eq_true rfl) dX10_init_56 ?_
  obtain ⟨f5, hf5⟩ : ∃ g9, va_up (kU 1 61 (va_up f4 (x + 102) (.inr (1, [.null]))) (x + 102) (fun _ => 0)) x (.inr (6, [.ref (x + 1), .ref (x + 10), .ref (x + 19), .ref (x + 28), .ref (x + 102), .null, .null, .null, .int 0, .int 0, .int 0])) = g9 := ⟨_, rfl⟩
  refine aw_hh hf5 (n' := x + 104) rfl ?_
  have hx5 : f5 x = .inr (6, [.ref (x + 1), .ref (x + 10), .ref (x + 19), .ref (x + 28), .ref (x + 102), .null, .null, .null, .int 0, .int 0, .int 0]) := by rw [← hf5]; exact up_self
  have c5 : ∀ a, a ≠ x → a < x + 102 → f5 a = f4 a := fun a h1 h2 => by rw [← hf5]; exact (up_ne h1).trans ((rU_out (by omega)).trans (up_ne (by omega)))
  have e5 : ∀ a, a < x → f5 a = H a := fun a ha => (c5 a (by omega) (by omega)).trans (e4 a ha)
  have s1 := s1.fr (f := f5) (fun a h1 h2 => c5 a (by omega) (by omega))
  have s10 := s10.fr (f := f5) (fun a h1 h2 => c5 a (by omega) (by omega))
  have s19 := s19.fr (f := f5) (fun a h1 h2 => c5 a (by omega) (by omega))
  have hh28 : ∀ Hs, hAt f5 (x + 28) 0 Hs := fun Hs => (hh28 Hs).fr (fun a h1 h2 => c5 a (by omega) (by omega))
  have k102 : kAt f5 1 61 (x + 102) (fun _ => 0) := by rw [← hf5]; exact kAt.new.fr (fun a h1 h2 => up_ne (by omega))
  refine aw_aload_n dX10_init_59 rfl rfl ?_
  refine aw_new fn_X10_36 (zv_all rfl) (by decide) (by decide) dX10_init_60 ?_
  refine aw_dup dX10_init_63 rfl ?_
  refine aw_nV (as := []) (rest := [.ref (x + 104), .ref x]) mI_X7_init (r_init up_self) nl_X10_38 dX10_init_64 rfl rfl (by decide) (Nat.le_of_ble_eq_true rfl) (by decide) ?_
  refine aw_putF ff_X10_39 rfl (((rU_out (by omega)).trans (up_ne (by omega))).trans hx5) (fun _ => rfl) (fun _ => rfl) (Nat.le_of_ble_eq_true rfl) dX10_init_67 ?_
  obtain ⟨f6, hf6⟩ : ∃ g9, va_up (kU 4 256 (va_up f5 (x + 104) (.inr (4, [.null]))) (x + 104) (fun _ => 0)) x (.inr (6, [.ref (x + 1), .ref (x + 10), .ref (x + 19), .ref (x + 28), .ref (x + 102), .ref (x + 104), .null, .null, .int 0, .int 0, .int 0])) = g9 := ⟨_, rfl⟩
  refine aw_hh hf6 (n' := x + 106) rfl ?_
  have hx6 : f6 x = .inr (6, [.ref (x + 1), .ref (x + 10), .ref (x + 19), .ref (x + 28), .ref (x + 102), .ref (x + 104), .null, .null, .int 0, .int 0, .int 0]) := by rw [← hf6]; exact up_self
  have c6 : ∀ a, a ≠ x → a < x + 104 → f6 a = f5 a := fun a h1 h2 => by rw [← hf6]; exact (up_ne h1).trans ((rU_out (by omega)).trans (up_ne (by omega)))
  have e6 : ∀ a, a < x → f6 a = H a := fun a ha => (c6 a (by omega) (by omega)).trans (e5 a ha)
  have s1 := s1.fr (f := f6) (fun a h1 h2 => c6 a (by omega) (by omega))
  have s10 := s10.fr (f := f6) (fun a h1 h2 => c6 a (by omega) (by omega))
  have s19 := s19.fr (f := f6) (fun a h1 h2 => c6 a (by omega) (by omega))
  have hh28 : ∀ Hs, hAt f6 (x + 28) 0 Hs := fun Hs => (hh28 Hs).fr (fun a h1 h2 => c6 a (by omega) (by omega))
  have k102 := k102.fr (f := f6) (fun a h1 h2 => c6 a (by omega) (by omega))
  have k104 : kAt f6 4 256 (x + 104) (fun _ => 0) := by rw [← hf6]; exact kAt.new.fr (fun a h1 h2 => up_ne (by omega))
  refine aw_aload_n dX10_init_70 rfl rfl ?_
  refine aw_new fn_X10_43 (zv_all rfl) (by decide) (by decide) dX10_init_71 ?_
  refine aw_dup dX10_init_74 rfl ?_
  refine aw_nV (as := []) (rest := [.ref (x + 106), .ref x]) mI_X5_init (p_init up_self) nl_X10_45 dX10_init_75 rfl rfl (by decide) (Nat.le_of_ble_eq_true rfl) (by decide) ?_
  refine aw_putF ff_X10_46 rfl (((rU_out (by omega)).trans (up_ne (by omega))).trans hx6) (fun _ => rfl) (fun _ => rfl) (Nat.le_of_ble_eq_true rfl) dX10_init_78 ?_
  obtain ⟨f7, hf7⟩ : ∃ g9, va_up (PG0 (va_up f6 (x + 106) (.inr (3, [.null, .null, .null, .null, .int 0, .int 0, .int 0]))) (x + 106)) x (.inr (6, [.ref (x + 1), .ref (x + 10), .ref (x + 19), .ref (x + 28), .ref (x + 102), .ref (x + 104), .ref (x + 106), .null, .int 0, .int 0, .int 0])) = g9 := ⟨_, rfl⟩
  refine aw_hh hf7 (n' := x + 111) rfl ?_
  have hx7 : f7 x = .inr (6, [.ref (x + 1), .ref (x + 10), .ref (x + 19), .ref (x + 28), .ref (x + 102), .ref (x + 104), .ref (x + 106), .null, .int 0, .int 0, .int 0]) := by rw [← hf7]; exact up_self
  have c7 : ∀ a, a ≠ x → a < x + 106 → f7 a = f6 a := fun a h1 h2 => by rw [← hf7]; exact (up_ne h1).trans ((rU_out (by omega)).trans (up_ne (by omega)))
  have e7 : ∀ a, a < x → f7 a = H a := fun a ha => (c7 a (by omega) (by omega)).trans (e6 a ha)
  have s1 := s1.fr (f := f7) (fun a h1 h2 => c7 a (by omega) (by omega))
  have s10 := s10.fr (f := f7) (fun a h1 h2 => c7 a (by omega) (by omega))
  have s19 := s19.fr (f := f7) (fun a h1 h2 => c7 a (by omega) (by omega))
  have hh28 : ∀ Hs, hAt f7 (x + 28) 0 Hs := fun Hs => (hh28 Hs).fr (fun a h1 h2 => c7 a (by omega) (by omega))
  have k102 := k102.fr (f := f7) (fun a h1 h2 => c7 a (by omega) (by omega))
  have k104 := k104.fr (f := f7) (fun a h1 h2 => c7 a (by omega) (by omega))
  have p106 : pAt f7 (x + 106) (fun _ => 0) (fun _ _ => 0) (fun _ => none) := by rw [← hf7]; exact pAt.new.fr (fun a h1 h2 => up_ne (by omega))
  refine aw_aload_n dX10_init_81 rfl rfl ?_
  refine aw_new fn_X10_50 (zv_all rfl) (by decide) (by decide) dX10_init_82 ?_
  refine aw_dup dX10_init_85 rfl ?_
  refine aw_iV (as := []) (rest := [.ref (x + 111), .ref x]) mI_J4_init_da8c8 (b4_new (Nat.lt_succ_self _) up_self) ml_X10_52 dX10_init_86 rfl rfl (by decide) (Nat.le_of_ble_eq_true rfl) (by decide) ?_
  refine aw_putF ff_X10_53 rfl (((BN.out (by omega) (by omega)).trans (up_ne (by omega))).trans hx7) (fun _ => rfl) (fun _ => rfl) (Nat.le_of_ble_eq_true rfl) dX10_init_89 ?_
  obtain ⟨f8, hf8⟩ : ∃ g9, va_up (BN (va_up f7 (x + 111) (.inr (0, [.null, .int 0, .int 0, .int 0]))) (x + 111) (x + 111 + 1)) x (.inr (6, [.ref (x + 1), .ref (x + 10), .ref (x + 19), .ref (x + 28), .ref (x + 102), .ref (x + 104), .ref (x + 106), .ref (x + 111), .int 0, .int 0, .int 0])) = g9 := ⟨_, rfl⟩
  refine aw_hh hf8 (n' := x + 113) rfl ?_
  have hx8 : f8 x = .inr (6, [.ref (x + 1), .ref (x + 10), .ref (x + 19), .ref (x + 28), .ref (x + 102), .ref (x + 104), .ref (x + 106), .ref (x + 111), .int 0, .int 0, .int 0]) := by rw [← hf8]; exact up_self
  have c8 : ∀ a, a ≠ x → a < x + 111 → f8 a = f7 a := fun a h1 h2 => by rw [← hf8]; exact (up_ne h1).trans ((BN.out (by omega) (by omega)).trans (up_ne (by omega)))
  have e8 : ∀ a, a < x → f8 a = H a := fun a ha => (c8 a (by omega) (by omega)).trans (e7 a ha)
  have s1 := s1.fr (f := f8) (fun a h1 h2 => c8 a (by omega) (by omega))
  have s10 := s10.fr (f := f8) (fun a h1 h2 => c8 a (by omega) (by omega))
  have s19 := s19.fr (f := f8) (fun a h1 h2 => c8 a (by omega) (by omega))
  have hh28 : ∀ Hs, hAt f8 (x + 28) 0 Hs := fun Hs => (hh28 Hs).fr (fun a h1 h2 => c8 a (by omega) (by omega))
  have k102 := k102.fr (f := f8) (fun a h1 h2 => c8 a (by omega) (by omega))
  have k104 := k104.fr (f := f8) (fun a h1 h2 => c8 a (by omega) (by omega))
  have p106 := p106.fr (f := f8) (fun a h1 h2 => c8 a (by omega) (by omega))
  have b111 : bK f8 (x + 111) (x + 112) (x + 113) [] 0 := by rw [← hf8]; exact (BN.bK (Nat.lt_succ_self _)).fr (up_ne (by omega)) (up_ne (by omega)) (Nat.le_refl _)
  refine aw_aload_n dX10_init_92 rfl rfl ?_
  refine aw_iconst_n 0 dX10_init_93 (by decide) ?_
  refine aw_put fp_X10_57 (hx8) (fun _ => rfl) (fun _ => rfl) (Nat.le_of_ble_eq_true rfl) dX10_init_94 ?_
  refine aw_aload_n dX10_init_97 rfl rfl ?_
  refine aw_iconst (v := (-1)) dX10_init_98 (by decide) ?_
  refine aw_put fp_X10_61 (up_self) (fun _ => rfl) (fun _ => rfl) (Nat.le_of_ble_eq_true rfl) dX10_init_99 ?_
  refine aw_aload_n dX10_init_102 rfl rfl ?_
  refine aw_iconst (v := (-1)) dX10_init_103 (by decide) ?_
  refine aw_put fp_X10_65 (up_self) (fun _ => rfl) (fun _ => rfl) (Nat.le_of_ble_eq_true rfl) dX10_init_104 ?_
  have cc : ∀ a c1 c2 c3, a ≠ x → va_up (va_up (va_up f8 x c1) x c2) x c3 a = f8 a := fun a c1 c2 c3 h => (up_ne h).trans ((up_ne h).trans (up_ne h))
  exact aw_vret rfl (by decide) (by decide) dX10_init_107 ⟨rfl, rfl, ⟨up_self, ⟨_, _, s1.fr fun a _ _ => cc a _ _ _ (by omega), SV_0⟩, ⟨_, _, s10.fr fun a _ _ => cc a _ _ _ (by omega)⟩, ⟨_, _, s19.fr fun a _ _ => cc a _ _ _ (by omega), fun h => Bool.noConfusion h⟩, (hh28 _).fr fun a _ _ => cc a _ _ _ (by omega), ⟨_, k102.fr fun a _ _ => cc a _ _ _ (by omega)⟩, ⟨_, k104.fr fun a _ _ => cc a _ _ _ (by omega)⟩, ⟨_, _, _, p106.fr fun a _ _ => cc a _ _ _ (by omega), ⟨rfl, by decide, fun i hi => absurd hi (Nat.not_lt_zero _), fun i hi => absurd hi (Nat.not_lt_zero _)⟩⟩, ⟨[], b111.fr (cc _ _ _ _ (by omega)) (cc _ _ _ _ (by omega)) (Nat.le_refl _), rfl, fun i hi => absurd hi (Nat.not_lt_zero _)⟩, hox, Nat.le_refl _⟩, fun a ha => (cc a _ _ _ (by omega)).trans (e8 a ha)⟩
