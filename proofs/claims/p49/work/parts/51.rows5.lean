section RW5
variable {l : Launch} {G : GT} {M : MT} {fr lo mc ms : Nat} {Post : PT} {n0 nc ns pc : Nat} {L : List (Nat × Value)} {S : List Value} {f : HT} {n : Nat}
theorem fits_b {c : Nat} (h : c < 128) : fits .byte (.int (nI c)) = true := by
  have key : ∀ c, c < 128 → fits .byte (.int (nI c)) = true := by decide +kernel
  exact key c h
theorem b128_nar {c : Nat} (h : c < 128) : vp_nar .byte (nI c) = nI c := by
  have key : ∀ c, c < 128 → vp_nar .byte (nI c) = nI c := by decide +kernel
  exact key c h
theorem b128_i2b {c : Nat} (h : c < 128) : (nI c).toInt8.toInt32 = nI c := by
  have key : ∀ c, c < 128 → (nI c).toInt8.toInt32 = nI c := by decide +kernel
  exact key c h
theorem aw_i2b_n {c : Nat} (h : c < 128) (hdg : decode M.2.1 pc = .ok (.i2b, 1)) (k : AW l G M fr lo mc ms Post n0 nc ns (pc + 1) L (.int (nI c) :: S) f n) : AW l G M fr lo mc ms Post n0 nc ns pc L (.int (nI c) :: S) f n := aw_i2b hdg (by rw [b128_i2b h]; exact k)
theorem aw_bald_n {a N k : Nat} {g : Nat → Int32} {v : Int32} (hf : f a = .inl (4, (N, .inl g))) (hk : k < N) (hN : N < 2 ^ 31) (hv : g k = v) (hdg : decode M.2.1 pc = .ok (.baload, 1)) (k9 : AW l G M fr lo mc ms Post n0 nc ns (pc + 1) L (.int v :: S) f n) : AW l G M fr lo mc ms Post n0 nc ns pc L (.int (nI k) :: .ref a :: S) f n :=
  aw_bald hf (vp_in_nI hk hN) hdg (by rw [nI_clamp (Nat.lt_trans hk hN), hv]; exact k9)
theorem aw_bast_n {a N k : Nat} {g : Nat → Int32} {x : Int32} (hf : f a = .inl (4, (N, .inl g))) (hk : k < N) (hN : N < 2 ^ 31) (hx : vp_nar .byte x = x) (hdg : decode M.2.1 pc = .ok (.bastore, 1)) (k9 : AW l G M fr lo mc ms Post n0 nc ns (pc + 1) L S (va_up f a (.inl (4, (N, .inl (upd g k x))))) n) : AW l G M fr lo mc ms Post n0 nc ns pc L (.int x :: .int (nI k) :: .ref a :: S) f n :=
  aw_bast hf (vp_in_nI hk hN) hdg (by rw [nI_clamp (Nat.lt_trans hk hN), hx]; exact k9)
theorem aw_copyb {ix a b N N' k : Nat} {g h : Nat → Int32} (hl : Cond.methodLink M.1 ix arraycopyName ∈ Big) (hf : f a = .inl (4, (N, .inl g))) (hf2 : f b = .inl (4, (N', .inl h))) (hk : k < 2 ^ 31) (h1 : k ≤ N) (h2 : k ≤ N') (hfit : ∀ i, i < k → fits .byte (.int (g i)) = true) (hfr : 1 ≤ fr) (hlo : (S.map fun v => v.category).sum + (nativeFrameWords "java/lang/System" "arraycopy" 5 + 11) ≤ lo) (hdg : decode M.2.1 pc = .ok (.invokestatic ix, 3))
    (kk : AW l G M fr lo mc ms Post n0 nc ns (pc + 3) L S (va_up f b (.inl (4, (N', .inl (va_cpy g h 0 0 k))))) n) : AW l G M fr lo mc ms Post n0 nc ns pc L (.int (nI k) :: .int (nI 0) :: .ref b :: .int (nI 0) :: .ref a :: S) f n := by
  intro p e s m args below meth c C ρ0 ρ H locs ls R
  have c0 : (nI 0).toNatClampNeg = 0 := nIc (by decide)
  have ck : (nI k).toNatClampNeg = k := nIc hk
  have n0' : ∀ j, j < 2 ^ 31 → ¬ nI j < 0 := fun j hj => by rw [Int32.lt_iff_toInt_lt, nI_toInt hj, Int32.toInt_zero]; omega
  refine va_copyi C.hx C.hb (by rw [C.hml]; exact R.lv.1.symm) C.own (C.ts _ hl) (C.ts _ k_acNat) (C.ts _ k_acStat) (C.ts _ k_sysIni) C.hK R.wd.1 R.wd.2.1 R.hS (a - o0) (b - o0) 4 4 (ty := .byte) (wl_get R.wd hf nilc_a) (wl_get R.wd hf2 nilc_a) rfl rfl rfl (n0' 0 (by decide)) (n0' 0 (by decide)) (n0' k hk) (by rw [c0, ck]; omega) (by rw [c0, ck]; omega) (fun i hi => by rw [c0, Nat.zero_add]; exact hfit i (by rw [ck] at hi; exact hi)) hfr (by rw [cat2]; exact hlo) hdg (fun H1 locs1 hP hD hS => ?_)
  rw [c0, ck] at hP hD
  exact kk C (R.heap (R.wd.set hf2 nilc_a (c := .inl (4, (N', .inl (va_cpy g h 0 0 k)))) trivial hP hD) hS (ok_tl (ok_tl (ok_tl (ok_tl (ok_tl R.okS))))))
theorem copied_old {cell : Cell} {N sp dp k n1 : Nat} {c1 : ClassId} {fv : Nat → Value} {g h : Nat → Int32} (hsl : ∀ j, j < N → cell.slots[j]? = some (fv j)) (hg : ∀ j, j < N → fv j = .int (g j)) (hs : sp + k ≤ N) :
    (arrV c1 n1 (fun j => .int (h j))).storeRun dp (cell.stretch sp k) = arrV c1 n1 (fun j => .int (va_cpy g h sp dp k j)) := by
  have e : cell.stretch sp k = (arrV c1 N (fun j => .int (g j))).stretch sp k := by
    unfold Cell.stretch
    apply List.map_congr_left
    intro i hi
    have hi' := List.mem_range.mp hi
    rw [Array.getD_eq_getD_getElem?, Array.getD_eq_getD_getElem?, arrV_read _ _ (by omega), hsl _ (by omega), hg _ (by omega)]
  rw [e]
  exact va_copied (fun z => .int z) c1 c1 g h hs
/-- bytes that were there before, into new bytes -/
theorem aw_copyOb {ix a b N N' d k : Nat} {fv : Nat → Value} {g h : Nat → Int32} (hl : Cond.methodLink M.1 ix arraycopyName ∈ Big) (hq : (.byte, a, N, fv) ∈ wT) (ha : a < o0) (hg : ∀ j, j < N → fv j = .int (g j)) (hf2 : f b = .inl (4, (N', .inl h))) (hk : k < 2 ^ 31) (hd9 : d < 2 ^ 31) (h1 : k ≤ N) (h2 : d + k ≤ N') (hfit : ∀ i, i < k → fits .byte (.int (g i)) = true) (hfr : 1 ≤ fr) (hlo : (S.map fun v => v.category).sum + (nativeFrameWords "java/lang/System" "arraycopy" 5 + 11) ≤ lo) (hdg : decode M.2.1 pc = .ok (.invokestatic ix, 3))
    (kk : AW l G M fr lo mc ms Post n0 nc ns (pc + 3) L S (va_up f b (.inl (4, (N', .inl (va_cpy g h 0 d k))))) n) : AW l G M fr lo mc ms Post n0 nc ns pc L (.int (nI k) :: .int (nI d) :: .ref b :: .int (nI 0) :: .ref a :: S) f n := by
  intro p e s m args below meth c C ρ0 ρ H locs ls R
  have c0 : (nI 0).toNatClampNeg = 0 := nIc (by decide)
  have ck : (nI k).toNatClampNeg = k := nIc hk
  have cd : (nI d).toNatClampNeg = d := nIc hd9
  have n0' : ∀ j, j < 2 ^ 31 → ¬ nI j < 0 := fun j hj => by rw [Int32.lt_iff_toInt_lt, nI_toInt hj, Int32.toInt_zero]; omega
  show W _ _ _ _ _ _ _ _ _ _ _ _ _ _ _ (F0 m pc ls (.int (nI k) :: .int (nI d) :: .ref (ρ b) :: .int (nI 0) :: .ref (ρ a) :: S.map (cv ρ)))
  rw [old_at R ha]
  obtain ⟨cell, g1, g2, g3, g4, g5, g6, g7⟩ := C.old.2.2.1 _ hq
  have g1' : H[gO G a]? = some cell := by rw [R.hS.2.1 _ (Array.getElem?_eq_some_iff.mp g1).1 g7]; exact g1
  have hsl : ∀ j, j < N → cell.slots[j]? = some (.int (g j)) := fun j hj => by
    rw [g6 j hj]
    show some (cv (gO G) (fv j)) = _
    rw [hg j hj]; rfl
  have hP := R.wd.1
  have hD := R.wd.2.1
  have ha1 := wl_get R.wd hf2 nilc_a
  have hc1 : H[ρ b]? = some (vp_cell (gA G 4) (N', .inl h)) := hP _ _ ha1
  obtain ⟨g20, k0, hk0, cm0, hkk0⟩ := g2
  obtain ⟨-, k1, hk1, cm1, hkk1⟩ := (C.hK.2 4 (gA G 4, .byte) rfl).1 N' (fun j => .int (h j))
  intro T hT X
  obtain ⟨vm', X', step⟩ := X.arraycopy C.hx C.own (C.ts _ hl) (C.ts _ k_acNat) (C.ts _ k_acStat) (C.ts _ k_sysIni) (src := gO G a) (dst := ρ b) (cs := cell) (cd := vp_cell (gA G 4) (N', .inl h)) (srcPos := nI 0) (destPos := nI d) (n := nI k) (by rw [hT]; exact g1') (by rw [hT]; exact hc1)
    g20 (fun _ h => by cases h) g3 (fun h => by cases h) hk0 hk1 hkk0 hkk1 (by simp [refKind]) (n0' 0 (by decide)) (n0' d hd9) (n0' k hk)
    (by rw [nI_toInt (by decide), nI_toInt hk]; have : N ≤ cell.slots.size := g4; omega)
    (by rw [nI_toInt hd9, nI_toInt hk]; show ¬ _ > ((arrV (gA G 4) N' (fun j => .int (h j))).slots.size : Int); rw [arrV_size]; omega)
    (fun vm₁ _ i hi => by
      have e : cell.slots.getD ((nI 0).toNatClampNeg + i) .null = .int (g i) := by
        rw [c0, Nat.zero_add, Array.getD_eq_getD_getElem?, hsl _ (by rw [ck] at hi; omega)]; rfl
      refine ⟨?_, ?_⟩
      · rw [e]; exact hfit i (by rw [ck] at hi; exact hi)
      · rw [e]; exact trivial)
    (g := F0 m pc ls (.int (nI k) :: .int (nI d) :: .ref (ρ b) :: .int (nI 0) :: .ref (gO G a) :: S.map (cv ρ))) rfl (by show ls.size = _; rw [C.hml]; exact R.lv.1) (rest := S.map (cv ρ)) rfl (by rw [C.hb]; exact hdg) hfr (by show 2 * 0 + _ + _ ≤ _; rw [cat2]; show 0 + _ + _ ≤ lo; omega)
  have e1 : copied cell (vp_cell (gA G 4) (N', .inl h)) (nI 0) (nI d) (nI k) = vp_cell (gA G 4) (N', .inl (va_cpy g h 0 d k)) := by
    show Cell.storeRun _ (nI d).toNatClampNeg (cell.stretch (nI 0).toNatClampNeg (nI k).toNatClampNeg) = _
    rw [c0, cd, ck]
    exact copied_old (fv := fun j => .int (g j)) hsl (fun _ _ => rfl) (by omega)
  rw [e1] at X' step
  have hlz : ρ b < H.size := (Array.getElem?_eq_some_iff.mp hc1).1
  have hheap : ((T.setVm vm').setCell (ρ b) (vp_cell (gA G 4) (N', .inl (va_cpy g h 0 d k)))).heap = H.setIfInBounds (ρ b) (vp_cell (gA G 4) (N', .inl (va_cpy g h 0 d k))) := by rw [← hT]; rfl
  have oq : ∀ q : Nat, q ≠ ρ b → (H.setIfInBounds (ρ b) (vp_cell (gA G 4) (N', .inl (va_cpy g h 0 d k))))[q]? = H[q]? := fun q hq => by simp [Array.getElem?_setIfInBounds, Ne.symm hq]
  have hP1 : va_P (gD G) clW ((wl (gA G) ρ n f).set (b - o0) (ρ b, .inl (gA G 4, (N', .inl (va_cpy g h 0 d k))))) (H.setIfInBounds (ρ b) (vp_cell (gA G 4) (N', .inl (va_cpy g h 0 d k)))) := hP.set hD ha1 (show (H.setIfInBounds (ρ b) (vp_cell (gA G 4) (N', .inl (va_cpy g h 0 d k))))[ρ b]? = some (vp_cell (gA G 4) (N', .inl (va_cpy g h 0 d k))) by simp [Array.getElem?_setIfInBounds, hlz]) oq
  have hD1 := hD.set (e := .inl (gA G 4, (N', .inl (va_cpy g h 0 d k)))) ha1
  obtain ⟨t, a1, b1⟩ := kk C (R.heap (R.wd.set hf2 nilc_a (c := .inl (4, (N', .inl (va_cpy g h 0 d k)))) trivial hP1 hD1) ⟨by simp; exact R.hS.1, fun q g1 g2 => by
      rw [oq q (fun e => g2 (by rw [e]; exact hD.2 _ _ ha1))]
      exact R.hS.2.1 q g1 g2, fun q hq => by
      rcases List.mem_append.mp hq with h | h
      · exact R.hS.2.2 q h
      · obtain ⟨z, -, hz⟩ := List.mem_map.mp h
        rw [← hz]
        exact hD.2 _ _ ha1⟩ (ok_tl (ok_tl (ok_tl (ok_tl (ok_tl R.okS)))))) _ hheap X'
  exact ⟨t, step t a1, b1⟩
end RW5
