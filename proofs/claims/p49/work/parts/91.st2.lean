section ST2
variable {args : Array Value} {s : State}
theorem st_old {b L : Nat} {xs : Nat → Int32} (hL : L ≤ 260) (hts : ∀ w ∈ lw_tbl, w.before args s = true) (hgv : (Jvm.Cond.and given_1 narrow_1).before args s = true) (hX : va_X b L xs s s.heap) (hb : b < s.heap.size) : ∃ o : Nat → Nat, o 0 = b ∧ ∀ (D : va_G) (A9 : Nat → ClassId), OldA (D, A9, s.heap.size, o, L, xs) s s.heap := by
  have hA : ∀ a : Nat, a < s.heap.size → ¬ (fun q : Nat => s.heap.size ≤ q) a := fun a h => Nat.not_le.mpr h
  obtain ⟨a8, v8, e8, hO8, hc8, hv8, hT8⟩ := st_s8 hgv hA
  obtain ⟨a9, v9, e9, hO9, hc9, hv9, hT9⟩ := st_s9 hgv hA
  obtain ⟨a10, v10, e10, hO10, hc10, hv10, hT10⟩ := st_s10 hgv hA
  obtain ⟨a11, v11, e11, hO11, hc11, hv11, hT11⟩ := st_s11 hgv hA
  obtain ⟨a12, v12, e12, hO12, hc12, hv12, hT12⟩ := st_s12 hgv hA
  obtain ⟨a13, v13, e13, hO13, hc13, hv13, hT13⟩ := st_s13 hgv hA
  obtain ⟨a14, v14, e14, hO14, hc14, hv14, hT14⟩ := st_s14 hgv hA
  obtain ⟨a15, v15, e15, hO15, hc15, hv15, hT15⟩ := st_s15 hgv hA
  obtain ⟨a16, v16, e16, hO16, hc16, hv16, hT16⟩ := st_s16 hgv hA
  obtain ⟨a31, v31, e31, hO31, hc31, hv31, hT31⟩ := st_s31 hgv hA
  obtain ⟨a32, v32, e32, hO32, hc32, hv32, hT32⟩ := st_s32 hgv hA
  obtain ⟨a33, v33, e33, hO33, hc33, hv33, hT33⟩ := st_s33 hgv hA
  obtain ⟨a34, v34, e34, hO34, hc34, hv34, hT34⟩ := st_s34 hgv hA
  obtain ⟨a35, v35, e35, hO35, hc35, hv35, hT35⟩ := st_s35 hgv hA
  obtain ⟨a36, v36, e36, hO36, hc36, hv36, hT36⟩ := st_s36 hgv hA
  obtain ⟨a37, v37, e37, hO37, hc37, hv37, hT37⟩ := st_s37 hgv hA
  obtain ⟨a38, v38, e38, hO38, hc38, hv38, hT38⟩ := st_s38 hgv hA
  obtain ⟨a39, v39, e39, hO39, hc39, hv39, hT39⟩ := st_s39 hgv hA
  obtain ⟨a40, v40, e40, hO40, hc40, hv40, hT40⟩ := st_s40 hgv hA
  obtain ⟨a41, v41, e41, hO41, hc41, hv41, hT41⟩ := st_s41 hgv hA
  obtain ⟨a42, v42, e42, hO42, hc42, hv42, hT42⟩ := st_s42 hgv hA
  obtain ⟨a43, v43, e43, hO43, hc43, hv43, hT43⟩ := st_s43 hgv hA
  obtain ⟨a44, v44, e44, hO44, hc44, hv44, hT44⟩ := st_s44 hgv hA
  obtain ⟨a45, v45, e45, hO45, hc45, hv45, hT45⟩ := st_s45 hgv hA
  obtain ⟨a46, v46, e46, hO46, hc46, hv46, hT46⟩ := st_s46 hgv hA
  obtain ⟨a47, v47, e47, hO47, hc47, hv47, hT47⟩ := st_s47 hgv hA
  obtain ⟨a48, v48, e48, hO48, hc48, hv48, hT48⟩ := st_s48 hgv hA
  obtain ⟨w1, f1, hW1, ho1, hs1, hd1, hn1⟩ := st_w1 hgv hA e8
  obtain ⟨w2, f2, hW2, ho2, hs2, hd2, hn2⟩ := st_w2 hgv hA e9
  obtain ⟨w3, f3, hW3, ho3, hs3, hd3, hn3⟩ := st_w3 hgv hA e10
  obtain ⟨w4, f4, hW4, ho4, hs4, hd4, hn4⟩ := st_w4 hgv hA e11
  obtain ⟨w5, f5, hW5, ho5, hs5, hd5, hn5⟩ := st_w5 hgv hA e12
  obtain ⟨w6, f6, hW6, ho6, hs6, hd6, hn6⟩ := st_w6 hgv hA e13
  obtain ⟨w7, f7, hW7, ho7, hs7, hd7, hn7⟩ := st_w7 hgv hA e14
  obtain ⟨tA, gA9, hAll⟩ := st_all hgv hA (fun k => [0, w1, w2, w3, w4, w5, w6, w7].getD k 0) f1 f2 f3 f4 f5 f6 f7
  obtain ⟨tS, gS, hSw⟩ := st_sw hgv hA
  obtain ⟨t1, g1, h1⟩ := st_ones hgv hA
  obtain ⟨t10, g10, h10⟩ := st_tens hgv hA
  obtain ⟨sio, hsio⟩ : ∃ t : Nat, va_Z "jdk/internal/util/Preconditions" "SIOOBE_FORMATTER" "Ljava/util/function/BiFunction;" (.ref t) (fun q : Nat => s.heap.size ≤ q) s s.heap ∨ va_Z "jdk/internal/util/Preconditions" "SIOOBE_FORMATTER" "Ljava/util/function/BiFunction;" .null (fun q : Nat => s.heap.size ≤ q) s s.heap := by
    rcases va_Zqof (C := "jdk/internal/util/Preconditions") (n := "SIOOBE_FORMATTER") (d := "Ljava/util/function/BiFunction;") (tbT hts 966 (by decide +kernel)) (tbT hts 54 (by decide +kernel)) (nwT hgv 7 (by decide +kernel)) hA with h | ⟨t, h⟩
    · exact ⟨0, Or.inr h⟩
    · exact ⟨t, Or.inl h⟩
  refine ⟨fun k => [b, w1, w2, w3, w4, w5, w6, w7, a8, a9, a10, a11, a12, a13, a14, a15, a16, v8, v9, v10, v11, v12, v13, v14, v15, v16, tA, tS, t1, t10, sio, a31, a32, a33, a34, a35, a36, a37, a38, a39, a40, a41, a42, a43, a44, a45, a46, a47, a48, v31, v32, v33, v34, v35, v36, v37, v38, v39, v40, v41, v42, v43, v44, v45, v46, v47, v48].getD k 0, rfl, fun D A9 => ⟨?_, ?_, ?_, ?_, ?_, ⟨?_, ?_⟩, st_wNc hgv, st_wR hts hgv, ?_, st_nest hts, ⟨va_AO.of (tbT hts 131 (by decide +kernel)), va_AO.of (tbT hts 170 (by decide +kernel))⟩, hsio⟩⟩
  · refine List.forall_mem_cons.mpr ⟨ho1, ?_⟩
    refine List.forall_mem_cons.mpr ⟨hs1, ?_⟩
    refine List.forall_mem_cons.mpr ⟨hd1, ?_⟩
    refine List.forall_mem_cons.mpr ⟨hn1, ?_⟩
    refine List.forall_mem_cons.mpr ⟨ho2, ?_⟩
    refine List.forall_mem_cons.mpr ⟨hs2, ?_⟩
    refine List.forall_mem_cons.mpr ⟨hd2, ?_⟩
    refine List.forall_mem_cons.mpr ⟨hn2, ?_⟩
    refine List.forall_mem_cons.mpr ⟨ho3, ?_⟩
    refine List.forall_mem_cons.mpr ⟨hs3, ?_⟩
    refine List.forall_mem_cons.mpr ⟨hd3, ?_⟩
    refine List.forall_mem_cons.mpr ⟨hn3, ?_⟩
    refine List.forall_mem_cons.mpr ⟨ho4, ?_⟩
    refine List.forall_mem_cons.mpr ⟨hs4, ?_⟩
    refine List.forall_mem_cons.mpr ⟨hd4, ?_⟩
    refine List.forall_mem_cons.mpr ⟨hn4, ?_⟩
    refine List.forall_mem_cons.mpr ⟨ho5, ?_⟩
    refine List.forall_mem_cons.mpr ⟨hs5, ?_⟩
    refine List.forall_mem_cons.mpr ⟨hd5, ?_⟩
    refine List.forall_mem_cons.mpr ⟨hn5, ?_⟩
    refine List.forall_mem_cons.mpr ⟨ho6, ?_⟩
    refine List.forall_mem_cons.mpr ⟨hs6, ?_⟩
    refine List.forall_mem_cons.mpr ⟨hd6, ?_⟩
    refine List.forall_mem_cons.mpr ⟨hn6, ?_⟩
    refine List.forall_mem_cons.mpr ⟨ho7, ?_⟩
    refine List.forall_mem_cons.mpr ⟨hs7, ?_⟩
    refine List.forall_mem_cons.mpr ⟨hd7, ?_⟩
    refine List.forall_mem_cons.mpr ⟨hn7, ?_⟩
    refine List.forall_mem_cons.mpr ⟨hc8, ?_⟩
    refine List.forall_mem_cons.mpr ⟨hv8, ?_⟩
    refine List.forall_mem_cons.mpr ⟨hc9, ?_⟩
    refine List.forall_mem_cons.mpr ⟨hv9, ?_⟩
    refine List.forall_mem_cons.mpr ⟨hc10, ?_⟩
    refine List.forall_mem_cons.mpr ⟨hv10, ?_⟩
    refine List.forall_mem_cons.mpr ⟨hc11, ?_⟩
    refine List.forall_mem_cons.mpr ⟨hv11, ?_⟩
    refine List.forall_mem_cons.mpr ⟨hc12, ?_⟩
    refine List.forall_mem_cons.mpr ⟨hv12, ?_⟩
    refine List.forall_mem_cons.mpr ⟨hc13, ?_⟩
    refine List.forall_mem_cons.mpr ⟨hv13, ?_⟩
    refine List.forall_mem_cons.mpr ⟨hc14, ?_⟩
    refine List.forall_mem_cons.mpr ⟨hv14, ?_⟩
    refine List.forall_mem_cons.mpr ⟨hc15, ?_⟩
    refine List.forall_mem_cons.mpr ⟨hv15, ?_⟩
    refine List.forall_mem_cons.mpr ⟨hc16, ?_⟩
    refine List.forall_mem_cons.mpr ⟨hv16, ?_⟩
    refine List.forall_mem_cons.mpr ⟨hc31, ?_⟩
    refine List.forall_mem_cons.mpr ⟨hv31, ?_⟩
    refine List.forall_mem_cons.mpr ⟨hc32, ?_⟩
    refine List.forall_mem_cons.mpr ⟨hv32, ?_⟩
    refine List.forall_mem_cons.mpr ⟨hc33, ?_⟩
    refine List.forall_mem_cons.mpr ⟨hv33, ?_⟩
    refine List.forall_mem_cons.mpr ⟨hc34, ?_⟩
    refine List.forall_mem_cons.mpr ⟨hv34, ?_⟩
    refine List.forall_mem_cons.mpr ⟨hc35, ?_⟩
    refine List.forall_mem_cons.mpr ⟨hv35, ?_⟩
    refine List.forall_mem_cons.mpr ⟨hc36, ?_⟩
    refine List.forall_mem_cons.mpr ⟨hv36, ?_⟩
    refine List.forall_mem_cons.mpr ⟨hc37, ?_⟩
    refine List.forall_mem_cons.mpr ⟨hv37, ?_⟩
    refine List.forall_mem_cons.mpr ⟨hc38, ?_⟩
    refine List.forall_mem_cons.mpr ⟨hv38, ?_⟩
    refine List.forall_mem_cons.mpr ⟨hc39, ?_⟩
    refine List.forall_mem_cons.mpr ⟨hv39, ?_⟩
    refine List.forall_mem_cons.mpr ⟨hc40, ?_⟩
    refine List.forall_mem_cons.mpr ⟨hv40, ?_⟩
    refine List.forall_mem_cons.mpr ⟨hc41, ?_⟩
    refine List.forall_mem_cons.mpr ⟨hv41, ?_⟩
    refine List.forall_mem_cons.mpr ⟨hc42, ?_⟩
    refine List.forall_mem_cons.mpr ⟨hv42, ?_⟩
    refine List.forall_mem_cons.mpr ⟨hc43, ?_⟩
    refine List.forall_mem_cons.mpr ⟨hv43, ?_⟩
    refine List.forall_mem_cons.mpr ⟨hc44, ?_⟩
    refine List.forall_mem_cons.mpr ⟨hv44, ?_⟩
    refine List.forall_mem_cons.mpr ⟨hc45, ?_⟩
    refine List.forall_mem_cons.mpr ⟨hv45, ?_⟩
    refine List.forall_mem_cons.mpr ⟨hc46, ?_⟩
    refine List.forall_mem_cons.mpr ⟨hv46, ?_⟩
    refine List.forall_mem_cons.mpr ⟨hc47, ?_⟩
    refine List.forall_mem_cons.mpr ⟨hv47, ?_⟩
    refine List.forall_mem_cons.mpr ⟨hc48, ?_⟩
    refine List.forall_mem_cons.mpr ⟨hv48, ?_⟩
    intro q h; cases h
  · refine List.forall_mem_cons.mpr ⟨hW1, ?_⟩
    refine List.forall_mem_cons.mpr ⟨hW2, ?_⟩
    refine List.forall_mem_cons.mpr ⟨hW3, ?_⟩
    refine List.forall_mem_cons.mpr ⟨hW4, ?_⟩
    refine List.forall_mem_cons.mpr ⟨hW5, ?_⟩
    refine List.forall_mem_cons.mpr ⟨hW6, ?_⟩
    refine List.forall_mem_cons.mpr ⟨hW7, ?_⟩
    refine List.forall_mem_cons.mpr ⟨hO8, ?_⟩
    refine List.forall_mem_cons.mpr ⟨hO9, ?_⟩
    refine List.forall_mem_cons.mpr ⟨hO10, ?_⟩
    refine List.forall_mem_cons.mpr ⟨hO11, ?_⟩
    refine List.forall_mem_cons.mpr ⟨hO12, ?_⟩
    refine List.forall_mem_cons.mpr ⟨hO13, ?_⟩
    refine List.forall_mem_cons.mpr ⟨hO14, ?_⟩
    refine List.forall_mem_cons.mpr ⟨hO15, ?_⟩
    refine List.forall_mem_cons.mpr ⟨hO16, ?_⟩
    refine List.forall_mem_cons.mpr ⟨hO31, ?_⟩
    refine List.forall_mem_cons.mpr ⟨hO32, ?_⟩
    refine List.forall_mem_cons.mpr ⟨hO33, ?_⟩
    refine List.forall_mem_cons.mpr ⟨hO34, ?_⟩
    refine List.forall_mem_cons.mpr ⟨hO35, ?_⟩
    refine List.forall_mem_cons.mpr ⟨hO36, ?_⟩
    refine List.forall_mem_cons.mpr ⟨hO37, ?_⟩
    refine List.forall_mem_cons.mpr ⟨hO38, ?_⟩
    refine List.forall_mem_cons.mpr ⟨hO39, ?_⟩
    refine List.forall_mem_cons.mpr ⟨hO40, ?_⟩
    refine List.forall_mem_cons.mpr ⟨hO41, ?_⟩
    refine List.forall_mem_cons.mpr ⟨hO42, ?_⟩
    refine List.forall_mem_cons.mpr ⟨hO43, ?_⟩
    refine List.forall_mem_cons.mpr ⟨hO44, ?_⟩
    refine List.forall_mem_cons.mpr ⟨hO45, ?_⟩
    refine List.forall_mem_cons.mpr ⟨hO46, ?_⟩
    refine List.forall_mem_cons.mpr ⟨hO47, ?_⟩
    refine List.forall_mem_cons.mpr ⟨hO48, ?_⟩
    intro q h; cases h
  · refine List.forall_mem_cons.mpr ⟨hT8, ?_⟩
    refine List.forall_mem_cons.mpr ⟨hT9, ?_⟩
    refine List.forall_mem_cons.mpr ⟨hT10, ?_⟩
    refine List.forall_mem_cons.mpr ⟨hT11, ?_⟩
    refine List.forall_mem_cons.mpr ⟨hT12, ?_⟩
    refine List.forall_mem_cons.mpr ⟨hT13, ?_⟩
    refine List.forall_mem_cons.mpr ⟨hT14, ?_⟩
    refine List.forall_mem_cons.mpr ⟨hT15, ?_⟩
    refine List.forall_mem_cons.mpr ⟨hT16, ?_⟩
    refine List.forall_mem_cons.mpr ⟨?_, ?_⟩
    · obtain ⟨cell, r1, r2, r3, r4, r5, r6, r7⟩ := hAll
      refine ⟨cell, r1, r2, r3, r4, r5, fun j hj => ?_, r7⟩
      rw [r6 j hj]
      have hj : j < 7 := hj
      rcases (by omega : j = 0 ∨ j = 1 ∨ j = 2 ∨ j = 3 ∨ j = 4 ∨ j = 5 ∨ j = 6) with rfl | rfl | rfl | rfl | rfl | rfl | rfl <;> rfl
    refine List.forall_mem_cons.mpr ⟨hSw, ?_⟩
    refine List.forall_mem_cons.mpr ⟨h1, ?_⟩
    refine List.forall_mem_cons.mpr ⟨h10, ?_⟩
    refine List.forall_mem_cons.mpr ⟨hT31, ?_⟩
    refine List.forall_mem_cons.mpr ⟨hT32, ?_⟩
    refine List.forall_mem_cons.mpr ⟨hT33, ?_⟩
    refine List.forall_mem_cons.mpr ⟨hT34, ?_⟩
    refine List.forall_mem_cons.mpr ⟨hT35, ?_⟩
    refine List.forall_mem_cons.mpr ⟨hT36, ?_⟩
    refine List.forall_mem_cons.mpr ⟨hT37, ?_⟩
    refine List.forall_mem_cons.mpr ⟨hT38, ?_⟩
    refine List.forall_mem_cons.mpr ⟨hT39, ?_⟩
    refine List.forall_mem_cons.mpr ⟨hT40, ?_⟩
    refine List.forall_mem_cons.mpr ⟨hT41, ?_⟩
    refine List.forall_mem_cons.mpr ⟨hT42, ?_⟩
    refine List.forall_mem_cons.mpr ⟨hT43, ?_⟩
    refine List.forall_mem_cons.mpr ⟨hT44, ?_⟩
    refine List.forall_mem_cons.mpr ⟨hT45, ?_⟩
    refine List.forall_mem_cons.mpr ⟨hT46, ?_⟩
    refine List.forall_mem_cons.mpr ⟨hT47, ?_⟩
    refine List.forall_mem_cons.mpr ⟨hT48, ?_⟩
    intro q h; cases h
  · obtain ⟨scr, r1, r2, r3, r4, r5⟩ := hX
    exact ⟨scr, r1, r2, r3, Nat.le_of_eq r4.symm, by rw [r4], r5, Nat.not_le.mpr hb⟩
  · refine List.forall_mem_cons.mpr ⟨va_Zof (tbT hts 204 (by decide +kernel)) (tbT hts 36 (by decide +kernel)) (va_eqi (nwT hgv 4 (by decide +kernel))) hA, ?_⟩
    refine List.forall_mem_cons.mpr ⟨va_Zof (tbT hts 1211 (by decide +kernel)) (tbT hts 56 (by decide +kernel)) (gA9) hA, ?_⟩
    refine List.forall_mem_cons.mpr ⟨va_Zof (tbT hts 1287 (by decide +kernel)) (tbT hts 57 (by decide +kernel)) (gS) hA, ?_⟩
    refine List.forall_mem_cons.mpr ⟨va_Zof (tbT hts 1036 (by decide +kernel)) (tbT hts 51 (by decide +kernel)) (g1) hA, ?_⟩
    refine List.forall_mem_cons.mpr ⟨va_Zof (tbT hts 1038 (by decide +kernel)) (tbT hts 51 (by decide +kernel)) (g10) hA, ?_⟩
    intro q h; cases h
  · exact vx_Zqof (tbT hts 303 (by decide +kernel)) (tbT hts 38 (by decide +kernel)) (nwT hgv 5 (by decide +kernel)) hA
  · exact vx_Zqof (tbT hts 305 (by decide +kernel)) (tbT hts 38 (by decide +kernel)) (nwT hgv 6 (by decide +kernel)) hA
  · refine List.forall_mem_cons.mpr ⟨vk_R.of (tbT hts 1185 (by decide +kernel)) e15, ?_⟩
    refine List.forall_mem_cons.mpr ⟨vk_R.of (tbT hts 1187 (by decide +kernel)) e16, ?_⟩
    refine List.forall_mem_cons.mpr ⟨vk_R.of (tbT hts 1432 (by decide +kernel)) e31, ?_⟩
    refine List.forall_mem_cons.mpr ⟨vk_R.of (tbT hts 1433 (by decide +kernel)) e32, ?_⟩
    refine List.forall_mem_cons.mpr ⟨vk_R.of (tbT hts 1434 (by decide +kernel)) e33, ?_⟩
    refine List.forall_mem_cons.mpr ⟨vk_R.of (tbT hts 1435 (by decide +kernel)) e34, ?_⟩
    refine List.forall_mem_cons.mpr ⟨vk_R.of (tbT hts 1436 (by decide +kernel)) e35, ?_⟩
    refine List.forall_mem_cons.mpr ⟨vk_R.of (tbT hts 1437 (by decide +kernel)) e36, ?_⟩
    refine List.forall_mem_cons.mpr ⟨vk_R.of (tbT hts 1438 (by decide +kernel)) e37, ?_⟩
    refine List.forall_mem_cons.mpr ⟨vk_R.of (tbT hts 1439 (by decide +kernel)) e38, ?_⟩
    refine List.forall_mem_cons.mpr ⟨vk_R.of (tbT hts 1440 (by decide +kernel)) e39, ?_⟩
    refine List.forall_mem_cons.mpr ⟨vk_R.of (tbT hts 1441 (by decide +kernel)) e40, ?_⟩
    refine List.forall_mem_cons.mpr ⟨vk_R.of (tbT hts 1442 (by decide +kernel)) e41, ?_⟩
    refine List.forall_mem_cons.mpr ⟨vk_R.of (tbT hts 1443 (by decide +kernel)) e42, ?_⟩
    refine List.forall_mem_cons.mpr ⟨vk_R.of (tbT hts 1444 (by decide +kernel)) e43, ?_⟩
    refine List.forall_mem_cons.mpr ⟨vk_R.of (tbT hts 1445 (by decide +kernel)) e44, ?_⟩
    refine List.forall_mem_cons.mpr ⟨vk_R.of (tbT hts 1446 (by decide +kernel)) e45, ?_⟩
    refine List.forall_mem_cons.mpr ⟨vk_R.of (tbT hts 1447 (by decide +kernel)) e46, ?_⟩
    refine List.forall_mem_cons.mpr ⟨vk_R.of (tbT hts 1448 (by decide +kernel)) e47, ?_⟩
    refine List.forall_mem_cons.mpr ⟨vk_R.of (tbT hts 1449 (by decide +kernel)) e48, ?_⟩
    intro q h; cases h
theorem st_K1 (hts : ∀ w ∈ lw_tbl, w.before args s = true) : ∃ D : Nat → ClassId × (Nat → Nat), ∀ (c : Nat) (q : vw_C), clW[c]? = some q → u_Kn s q.1 q.2.1 q.2.2 (D c).1 (D c).2 := by
  refine Classical.axiomOfChoice (r := fun (c : Nat) (d : ClassId × (Nat → Nat)) => ∀ q : vw_C, clW[c]? = some q → u_Kn s q.1 q.2.1 q.2.2 d.1 d.2) fun c => ?_
  have hB : ∀ w ∈ Big, w.before args s = true := fun w hw => hts w (big_in w hw)
  match c with
  | 0 =>
    obtain ⟨cC, iS, h⟩ := u_known (C := RJ4) (T := TJ4) (N := 4) hB inB_J4 (tbT hts 195 (w := .instantiable RJ4 4) (by decide +kernel))
    exact ⟨(cC, iS), fun q hq => by
      have hq : some ((RJ4, TJ4, 4) : vw_C) = some q := hq
      cases hq
      exact h⟩
  | 1 =>
    obtain ⟨cC, iS, h⟩ := u_known (C := RX1) (T := TX1) (N := 1) hB inB_X1 (tbT hts 144 (w := .instantiable RX1 1) (by decide +kernel))
    exact ⟨(cC, iS), fun q hq => by
      have hq : some ((RX1, TX1, 1) : vw_C) = some q := hq
      cases hq
      exact h⟩
  | 2 =>
    obtain ⟨cC, iS, h⟩ := u_known (C := RX2) (T := TX2) (N := 3) hB inB_X2 (tbT hts 125 (w := .instantiable RX2 3) (by decide +kernel))
    exact ⟨(cC, iS), fun q hq => by
      have hq : some ((RX2, TX2, 3) : vw_C) = some q := hq
      cases hq
      exact h⟩
  | 3 =>
    obtain ⟨cC, iS, h⟩ := u_known (C := RX5) (T := TX5) (N := 7) hB inB_X5 (tbT hts 164 (w := .instantiable RX5 7) (by decide +kernel))
    exact ⟨(cC, iS), fun q hq => by
      have hq : some ((RX5, TX5, 7) : vw_C) = some q := hq
      cases hq
      exact h⟩
  | 4 =>
    obtain ⟨cC, iS, h⟩ := u_known (C := RX7) (T := TX7) (N := 1) hB inB_X7 (tbT hts 154 (w := .instantiable RX7 1) (by decide +kernel))
    exact ⟨(cC, iS), fun q hq => by
      have hq : some ((RX7, TX7, 1) : vw_C) = some q := hq
      cases hq
      exact h⟩
  | 5 =>
    obtain ⟨cC, iS, h⟩ := u_known (C := RX8) (T := TX8) (N := 12) hB inB_X8 (tbT hts 71 (w := .instantiable RX8 12) (by decide +kernel))
    exact ⟨(cC, iS), fun q hq => by
      have hq : some ((RX8, TX8, 12) : vw_C) = some q := hq
      cases hq
      exact h⟩
  | 6 =>
    obtain ⟨cC, iS, h⟩ := u_known (C := RX10) (T := TX10) (N := 11) hB inB_X10 (tbT hts 63 (w := .instantiable RX10 11) (by decide +kernel))
    exact ⟨(cC, iS), fun q hq => by
      have hq : some ((RX10, TX10, 11) : vw_C) = some q := hq
      cases hq
      exact h⟩
  | 7 =>
    obtain ⟨cC, iS, h⟩ := u_known (C := RJ0) (T := TJ0) (N := 4) hB inB_J0 (tbT hts 1052 (w := .instantiable RJ0 4) (by decide +kernel))
    exact ⟨(cC, iS), fun q hq => by
      have hq : some ((RJ0, TJ0, 4) : vw_C) = some q := hq
      cases hq
      exact h⟩
  | c + 8 => exact ⟨(0, fun k => k), fun q hq => by
      have hq : (none : Option vw_C) = some q := hq
      cases hq⟩
theorem st_arr {ty : FieldType} (h : (Cond.arrayClass ty).before args s = true) : ∃ cA : ClassId, ArrOfT s cA ty ∧ s.vm.findClass ("[" ++ ty.toString) = some cA := by
  obtain ⟨c, k, comp, h1, h2, h3⟩ := Cond.arrayClass_spec (args := args) (first := s) (o := none) (s := s) (idx := []) h
  exact ⟨c, fun n z => ⟨fun k h => (by cases h), k, h2, comp, h3⟩, h1⟩
theorem st_arO {C : String} (h : (Cond.arrayOver (.object C)).before args s = true) : ∃ cA : ClassId, ArrOfT s cA (.object C) ∧ va_RA s cA (.object C) := by
  obtain ⟨comp, c, k, h1, h2, h3, h4, h5⟩ := Cond.arrayOver_spec (args := args) (first := s) (o := none) (s := s) (idx := []) h
  exact ⟨c, fun n z => ⟨fun k h => (by cases h), k, h3, comp, h4⟩, k, comp, h3, h4, h1, h5⟩
theorem st_K (hts : ∀ w ∈ lw_tbl, w.before args s = true) : ∃ (D : va_G) (A9 : Nat → ClassId), ∀ (z : Nat) (o : Nat → Nat) (L : Nat) (xs : Nat → Int32), va_K D clW (tyK (D, A9, z, o, L, xs)) s := by
  obtain ⟨D, hD⟩ := st_K1 hts
  obtain ⟨c0, p0, r0⟩ := st_arr (tbT hts 123 (w := .arrayClass .int) (by decide +kernel))
  obtain ⟨c1, p1, r1⟩ := st_arr (tbT hts 193 (w := .arrayClass .char) (by decide +kernel))
  obtain ⟨c4, p4, r4⟩ := st_arr (tbT hts 226 (w := .arrayClass .byte) (by decide +kernel))
  obtain ⟨c5, p5, r5⟩ := st_arO (tbT hts 131 (w := .arrayOver (.object RX8)) (by decide +kernel))
  obtain ⟨c6, p6, r6⟩ := st_arO (tbT hts 170 (w := .arrayOver (.object RX9)) (by decide +kernel))
  refine ⟨(fun c => (D c).1, fun c => (D c).2), fun k => [c0, c1, c0, c0, c4, c5, c6].getD k 0, fun z o L xs => ⟨hD, fun k q hk => ?_⟩⟩
  match k with
  | 0 =>
    have hk : some ((c0, .int) : ClassId × FieldType) = some q := hk
    cases hk
    exact ⟨p0, r0⟩
  | 1 =>
    have hk : some ((c1, .char) : ClassId × FieldType) = some q := hk
    cases hk
    exact ⟨p1, r1⟩
  | 2 =>
    have hk : some ((c0, .int) : ClassId × FieldType) = some q := hk
    cases hk
    exact ⟨p0, r0⟩
  | 3 =>
    have hk : some ((c0, .int) : ClassId × FieldType) = some q := hk
    cases hk
    exact ⟨p0, r0⟩
  | 4 =>
    have hk : some ((c4, .byte) : ClassId × FieldType) = some q := hk
    cases hk
    exact ⟨p4, r4⟩
  | 5 =>
    have hk : some ((c5, .object RX8) : ClassId × FieldType) = some q := hk
    cases hk
    exact ⟨p5, r5⟩
  | 6 =>
    have hk : some ((c6, .object RX9) : ClassId × FieldType) = some q := hk
    cases hk
    exact ⟨p6, r6⟩
  | k + 7 =>
    have hk : (none : Option (ClassId × FieldType)) = some q := hk
    cases hk
end ST2
