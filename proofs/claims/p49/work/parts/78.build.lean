/-! the law's build -/
abbrev ML_build : MT := (RL, cL_build, 5, some (.object RX10), [], "build")
/-- the gym at x, younger than all that H had -/
def BI (H : HT) (x : Nat) (f : HT) (n : Nat) (s : SG) : Prop := x + 112 ≤ n ∧ ∃ bx, GW f x bx n s ∧ ∀ a, a < x → f a = H a
theorem BI.obj {H f : HT} {x n : Nat} {s : SG} (h : BI H x f n s) : RC f RX10 x := by
  obtain ⟨-, bx, h, -⟩ := h
  exact RC.w h.1 rfl
section BIC
variable {l : Launch} {G : GT} {M : MT} {fr lo mc ms : Nat} {Post : PT} {n0 nc ns pc : Nat} {L : List (Nat × Value)} {st rest : List Value} {H f : HT} {n x : Nat} {s s' : SG} {v : Option Value} {mc' ms' : Nat}
theorem aw_bi (hW : BI H x f n s) (hs : ∀ v ∈ rest, v ∈ st) (hcr : ∀ bx, GW f x bx n s → CR l G M fr lo mc ms n0 nc ns pc L st rest f n mc' ms' (GA v x bx f n s')) (k : ∀ f' n', BI H x f' n' s' → AW l G M fr lo mc ms Post n0 (nc + mc') (ns + ms') (pc + 3) L (v.toList ++ rest) f' n') : AW l G M fr lo mc ms Post n0 nc ns pc L st f n := by
  obtain ⟨h1, bx, h2, h3⟩ := hW
  have hbx : x + 112 ≤ bx := by
    obtain ⟨-, -, -, -, -, -, -, -, -, -, h⟩ := h2
    exact h
  refine aw_crP (hcr bx h2) hs (fun _ _ _ h => by cases h.1) (fun r f' n' hn h => ?_)
  obtain ⟨h0, -, bx', hb, hG, hF⟩ := h
  cases h0
  exact k f' n' ⟨by omega, bx', hG, fun a ha => (hF a (by omega) (Or.inl ha) (by omega)).trans (h3 a ha)⟩
theorem aw_bx {y9 : MethodName} {cc' : ByteArray} {nL' kk ix : Nat} {ret' : Option FieldType} {hh : List (Nat × Nat × Nat × Nat)} {as : List Value} {fr' lo' : Nat} (hMW : MW y9 cc' nL' ret' hh kk) (hW : BI H x f n s) (hA : ∀ bx, GW f x bx n s → AM l G y9 (.codeWith y9 cc' nL' ret' hh) fr' lo' mc' ms' as f n (GA v x bx f n s')) (hl : Cond.methodLink M.1 ix y9 ∈ Big)
    (hdg : decode M.2.1 pc = .ok (.invokestatic ix, 3)) (hst : as.reverse ++ rest = st) (hk : as.length = kk) (hR : fr' + 1 ≤ fr ∧ 8 + (nL' + 11) + lo' ≤ lo) (hcat : (rest.map fun v => v.category).sum ≤ 8) (hc : nc + mc' ≤ mc ∧ ns + ms' ≤ ms) (k : ∀ f' n', BI H x f' n' s' → AW l G M fr lo mc ms Post n0 (nc + mc') (ns + ms') (pc + 3) L (v.toList ++ rest) f' n') : AW l G M fr lo mc ms Post n0 nc ns pc L st f n := by
  subst hst
  exact aw_bi hW sub_app2 (fun bx h => cr_SX hMW (hA bx h) hl hdg hk hR hcat hc) k
theorem aw_bv {y9 : MethodName} {cc' : ByteArray} {nL' kk ix : Nat} {ret' : Option FieldType} {as : List Value} {fr' lo' : Nat} (hMV : MV y9 cc' nL' ret' kk) (hcl : y9.cls = RX10) (hW : BI H x f n s) (hA : ∀ bx, GW f x bx n s → AM l G y9 (.code y9 cc' nL' ret') fr' lo' mc' ms' (.ref x :: as) f n (GA v x bx f n s')) (hl : Cond.methodLink M.1 ix y9 ∈ Big)
    (hdg : decode M.2.1 pc = .ok (.invokevirtual ix, 3)) (hst : as.reverse ++ .ref x :: rest = st) (hk : as.length = kk) (hR : fr' + 1 ≤ fr ∧ 8 + (nL' + 11) + lo' ≤ lo) (hcat : (rest.map fun v => v.category).sum ≤ 8) (hc : nc + mc' ≤ mc ∧ ns + ms' ≤ ms) (k : ∀ f' n', BI H x f' n' s' → AW l G M fr lo mc ms Post n0 (nc + mc') (ns + ms') (pc + 3) L (v.toList ++ rest) f' n') : AW l G M fr lo mc ms Post n0 nc ns pc L st f n := by
  subst hst
  exact aw_bi hW sub_app (fun bx h => cr_VC (C9 := RX10) (by have h9 := hMV.c; rw [hcl] at h9; exact h9) (hA bx h) hl (RC.w h.1 rfl) hdg hk hR hcat hc) k
end BIC
theorem nI_ne8 {k : Nat} (h1 : 1 ≤ k) (h2 : k ≤ 8) : ¬ nI k = 0 := by
  have key : ∀ k, 1 ≤ k → k ≤ 8 → ¬ nI k = 0 := by
    intro k h1 h2
    rcases (by omega : k = 1 ∨ k = 2 ∨ k = 3 ∨ k = 4 ∨ k = 5 ∨ k = 6 ∨ k = 7 ∨ k = 8) with rfl | rfl | rfl | rfl | rfl | rfl | rfl | rfl <;> decide +kernel
  exact key k h1 h2
theorem and_mask {x : Int32} {k : Nat} (hk : k < 31) : ∃ m, m < 2 ^ k ∧ x &&& nI (2 ^ k - 1) = nI m := by
  have h2 : 2 ^ k < 2 ^ 31 := Nat.pow_lt_pow_right (by decide) hk
  have h1 : 1 ≤ 2 ^ k := Nat.one_le_two_pow
  refine ⟨x.toBitVec.toNat % 2 ^ k, Nat.mod_lt _ (by omega), ?_⟩
  apply Int32.toBitVec_inj.mp
  apply BitVec.eq_of_toNat_eq
  have e : ∀ m, m < 2 ^ 31 → (nI m).toBitVec.toNat = m := fun m hm => by
    show (Int32.ofNat m).toBitVec.toNat = m
    rw [Int32.toBitVec_ofNat']
    simp only [BitVec.toNat_ofNat]
    omega
  rw [Int32.toBitVec_and, BitVec.toNat_and, e _ (by omega), e _ (by have := Nat.mod_lt x.toBitVec.toNat (show 0 < 2 ^ k by omega); omega), Nat.and_two_pow_sub_one_eq_mod]
theorem opS_cnt {s : SG} {q : Nat × Nat × (Nat → Nat)} (h : s.1 2 ≤ q.2.2 2) : s.1 2 ≤ (opS s q).1 2 := by
  unfold opS; split
  · exact h
  · exact Nat.le_refl _
theorem opS_22 (s : SG) (q : Nat × Nat × (Nat → Nat)) : (opS s q).2.2 = s.2.2 := by
  unfold opS; split <;> rfl
theorem tks_2 : ∀ (t : Nat) (V : Nat → Nat), tks t V 2 = V 2 := by
  intro t
  induction t with
  | zero => intro V; rfl
  | succ t ih =>
    intro V
    show tks t (tkV V (V 2)) 2 = V 2
    rw [ih]
    unfold tkV
    rw [if_neg (by decide), if_neg (by omega), if_neg (by omega)]
theorem cn_opAdd (V : Nat → Nat) (a : Int32) : V 2 ≤ (opAdd V a).2.2 2 := by
  unfold opAdd; split
  · exact Nat.le_refl _
  · split
    · exact Nat.le_refl _
    · exact Nat.le_trans (Nat.le_succ _) (Nat.le_of_eq (up_self (f := va_up V (4 + V 2) a.toNatClampNeg) (k := 2) (v := V 2 + 1)).symm)
theorem cn_opPush (V : Nat → Nat) (a b : Int32) : V 2 ≤ (opPush V a b).2.2 2 := by
  unfold opPush; (repeat' split) <;> try exact Nat.le_refl _
  show V 2 ≤ pushV V _ _ 2
  have e : ∀ W : Nat → Nat, W 2 = V 2 → ∀ j y, 2 < j → va_up W j y 2 = V 2 := fun W h j y hj => (up_ne (by omega)).trans h
  have e0 : ∀ k a, (va_up (if V (12 + k) = 0 then va_up V (20 + k) (V 0) else V) (12 + k) a) 2 = V 2 := fun k a => by
    refine e _ ?_ _ _ (by omega)
    split
    · exact up_ne (by omega)
    · rfl
  unfold pushV
  split
  · rw [e _ (e _ (e0 _ _) _ _ (by omega)) _ _ (by omega)]; exact Nat.le_refl _
  · rw [e0]; exact Nat.le_refl _
theorem cn_opCatch (V : Nat → Nat) (a : Int32) : V 2 ≤ (opCatch V a).2.2 2 := by
  unfold opCatch; (repeat' split) <;> try exact Nat.le_refl _
  exact Nat.le_of_eq (up_ne (f := V) (k := 12 + a.toNatClampNeg) (v := 0) (j := 2) (by omega)).symm
theorem cn_opFric (V : Nat → Nat) (a : Int32) : V 2 ≤ (opFric V a).2.2 2 := by
  unfold opFric; split
  · exact Nat.le_refl _
  · exact Nat.le_of_eq (up_ne (f := V) (k := 1) (v := a.toNatClampNeg) (j := 2) (by omega)).symm
theorem cn_opPass (V : Nat → Nat) (a : Int32) : V 2 ≤ (opPass V a).2.2 2 := by
  unfold opPass; split
  · exact Nat.le_refl _
  · show V 2 ≤ tks _ V 2
    rw [tks_2]; exact Nat.le_refl _
theorem cn_opLeg (V : Nat → Nat) (a : Int32) : V 2 ≤ (opLeg V a).2.2 2 := by
  unfold opLeg; (repeat' split) <;> try exact Nat.le_refl _
  exact Nat.le_of_eq ((up_ne (f := va_up V (42 + V 3) a.toNatClampNeg) (k := 3) (v := V 3 + 1) (j := 2) (by omega)).trans (up_ne (f := V) (k := 42 + V 3) (v := a.toNatClampNeg) (j := 2) (by omega))).symm
theorem cn_opCut (V : Nat → Nat) (a : Int32) : V 2 ≤ (opCut V a).2.2 2 := by
  unfold opCut; split
  · exact Nat.le_refl _
  · exact Nat.le_of_eq ((up_ne (f := cutV V a.toNatClampNeg 5) (k := 3) (v := V 3 - 1) (j := 2) (by omega)).trans (by unfold cutV; rw [if_neg (by omega)])).symm
/-- what a state of the build keeps -/
def BO (K : Nat) (s : SG) : Prop := SB K s ∧ s.2.2 = sg0.2.2
theorem BO.op {K : Nat} {s : SG} {q : Nat × Nat × (Nat → Nat)} (h : BO K s) (hq : VBq K q) : BO (K + 500) (opS s q) := ⟨h.1.op hq (by omega), (opS_22 s q).trans h.2⟩
theorem BO.mono {K K' : Nat} {s : SG} (h : BO K s) (h1 : K ≤ K') (h2 : K' < 16000000) : BO K' s := ⟨h.1.mono h1 h2, h.2⟩
def bE_0 (c : Int32) (s : SG) : SG := opS s (opPush s.1 ((c &&& (nI 7)) - (c &&& (nI 7)) / (nI (s.1 2)) * (nI (s.1 2))) ((nI 1) + ((c >>> ((nI 3) &&& 31)) &&& (nI 31))))
set_option maxHeartbeats 4000000 in
theorem bk_0 {l : Launch} {G : GT} {Post : PT} {n0 nc ns n x k K : Nat} {H f : HT} {s : SG} {z c : Int32} (hW : BI H x f n s) (hSB : BO K s) (hK : K + 31000 < 16000000) (h1 : 1 ≤ s.1 2) (hnc : nc + 12 ≤ 2000) (hns : ns + 72 ≤ 12000)
    (kk : ∀ (f' : HT) (n' nc' ns' : Nat), BI H x f' n' (bE_0 c s) → BO (K + 500) (bE_0 c s) → 1 ≤ (bE_0 c s).1 2 → nc' ≤ nc + 12 → ns' ≤ ns + 72 → AW l G ML_build 12 720 2000 12000 Post n0 nc' ns' 126 [(4, .int c), (3, .int (nI k)), (2, .int z), (1, .ref x), (0, .ref 0)] [] f' n') : AW l G ML_build 12 720 2000 12000 Post n0 nc ns 101 [(4, .int c), (3, .int (nI k)), (2, .int z), (1, .ref x), (0, .ref 0)] [] f n := by
  refine aw_aload_n dL_build_101 rfl rfl ?_
  refine aw_iconst_n 1 dL_build_102 (by decide) ?_
  refine aw_iload dL_build_103 rfl ?_
  refine aw_bipush_n 7 dL_build_105 (by decide) ?_
  refine aw_iand dL_build_107 ?_
  refine aw_aload_n dL_build_108 rfl rfl ?_
  refine aw_bv (as := []) (rest := [Value.int (c &&& (nI 7)), Value.int (nI 1), Value.ref x]) mV_X10_pendulumCount rfl hW (fun bx hG => GX.ga rfl (q_pendulumCount (l := l) (G := G) hG hSB.1 (by omega))) ml_L_34 dL_build_109 rfl rfl (by decide) (Nat.le_of_ble_eq_true rfl) ⟨by omega, by omega⟩ (fun f0 n0 hW => ?_)
  refine aw_irem (nI_ne8 h1 hSB.1.1.cnt) dL_build_112 ?_
  refine aw_iconst_n 1 dL_build_113 (by decide) ?_
  refine aw_iload dL_build_114 rfl ?_
  refine aw_iconst_n 3 dL_build_116 (by decide) ?_
  refine aw_ishr dL_build_117 ?_
  refine aw_bipush_n 31 dL_build_118 (by decide) ?_
  refine aw_iand dL_build_120 ?_
  refine aw_iadd dL_build_121 ?_
  refine aw_bx (as := [Value.ref x, Value.int (nI 1), Value.int ((c &&& (nI 7)) - (c &&& (nI 7)) / (nI (s.1 2)) * (nI (s.1 2))), Value.int ((nI 1) + ((c >>> ((nI 3) &&& 31)) &&& (nI 31)))]) (rest := []) mW_L_act hW (fun bx hG => l_act_1 (l := l) (G := G) hG hSB.1 (by omega) ((c &&& (nI 7)) - (c &&& (nI 7)) / (nI (s.1 2)) * (nI (s.1 2))) ((nI 1) + ((c >>> ((nI 3) &&& 31)) &&& (nI 31)))) ml_L_30 dL_build_122 rfl rfl (by decide) (Nat.le_of_ble_eq_true rfl) ⟨by omega, by omega⟩ (fun f1 n1 hW1 => ?_)
  refine aw_pop dL_build_125 rfl ?_
  have e9 : bE_0 c s = opS s (opPush s.1 ((c &&& (nI 7)) - (c &&& (nI 7)) / (nI (s.1 2)) * (nI (s.1 2))) ((nI 1) + ((c >>> ((nI 3) &&& 31)) &&& (nI 31)))) := rfl
  exact kk f1 n1 _ _ (by rw [e9]; exact hW1) (by rw [e9]; exact hSB.op (vq_push hSB.1.1 (by omega) ((c &&& (nI 7)) - (c &&& (nI 7)) / (nI (s.1 2)) * (nI (s.1 2))) ((nI 1) + ((c >>> ((nI 3) &&& 31)) &&& (nI 31))))) (by rw [e9]; exact Nat.le_trans h1 (opS_cnt (cn_opPush s.1 ((c &&& (nI 7)) - (c &&& (nI 7)) / (nI (s.1 2)) * (nI (s.1 2))) ((nI 1) + ((c >>> ((nI 3) &&& 31)) &&& (nI 31)))))) (by omega) (by omega)
def bE_1 (c : Int32) (s : SG) : SG := if ((c >>> ((nI 8) &&& 31)) &&& (nI 3)) = 0 then opS s (opPush s.1 (((c >>> ((nI 10) &&& 31)) &&& (nI 7)) - ((c >>> ((nI 10) &&& 31)) &&& (nI 7)) / (nI (s.1 2)) * (nI (s.1 2))) ((nI 1) + ((c >>> ((nI 13) &&& 31)) &&& (nI 15)))) else s
set_option maxHeartbeats 4000000 in
theorem bk_1 {l : Launch} {G : GT} {Post : PT} {n0 nc ns n x k K : Nat} {H f : HT} {s : SG} {z c : Int32} (hW : BI H x f n s) (hSB : BO K s) (hK : K + 31000 < 16000000) (h1 : 1 ≤ s.1 2) (hnc : nc + 12 ≤ 2000) (hns : ns + 72 ≤ 12000)
    (kk : ∀ (f' : HT) (n' nc' ns' : Nat), BI H x f' n' (bE_1 c s) → BO (K + 500) (bE_1 c s) → 1 ≤ (bE_1 c s).1 2 → nc' ≤ nc + 12 → ns' ≤ ns + 72 → AW l G ML_build 12 720 2000 12000 Post n0 nc' ns' 165 [(4, .int c), (3, .int (nI k)), (2, .int z), (1, .ref x), (0, .ref 0)] [] f' n') : AW l G ML_build 12 720 2000 12000 Post n0 nc ns 126 [(4, .int c), (3, .int (nI k)), (2, .int z), (1, .ref x), (0, .ref 0)] [] f n := by
  refine aw_iload dL_build_126 rfl ?_
  refine aw_bipush_n 8 dL_build_128 (by decide) ?_
  refine aw_ishr dL_build_130 ?_
  refine aw_iconst_n 3 dL_build_131 (by decide) ?_
  refine aw_iand dL_build_132 ?_
  refine aw_if_ne (tgt := 165) dL_build_133 (by decide) (fun c9 => ?_) (fun c9 => ?_)
  · have e9 : bE_1 c s = s := if_neg c9
    exact kk f n nc ns (by rw [e9]; exact hW) (by rw [e9]; exact hSB.mono (by omega) (by omega)) (by rw [e9]; exact h1) (by omega) (by omega)
  · refine aw_aload_n dL_build_136 rfl rfl ?_
    refine aw_iconst_n 1 dL_build_137 (by decide) ?_
    refine aw_iload dL_build_138 rfl ?_
    refine aw_bipush_n 10 dL_build_140 (by decide) ?_
    refine aw_ishr dL_build_142 ?_
    refine aw_bipush_n 7 dL_build_143 (by decide) ?_
    refine aw_iand dL_build_145 ?_
    refine aw_aload_n dL_build_146 rfl rfl ?_
    refine aw_bv (as := []) (rest := [Value.int ((c >>> ((nI 10) &&& 31)) &&& (nI 7)), Value.int (nI 1), Value.ref x]) mV_X10_pendulumCount rfl hW (fun bx hG => GX.ga rfl (q_pendulumCount (l := l) (G := G) hG hSB.1 (by omega))) ml_L_34 dL_build_147 rfl rfl (by decide) (Nat.le_of_ble_eq_true rfl) ⟨by omega, by omega⟩ (fun f0 n0 hW => ?_)
    refine aw_irem (nI_ne8 h1 hSB.1.1.cnt) dL_build_150 ?_
    refine aw_iconst_n 1 dL_build_151 (by decide) ?_
    refine aw_iload dL_build_152 rfl ?_
    refine aw_bipush_n 13 dL_build_154 (by decide) ?_
    refine aw_ishr dL_build_156 ?_
    refine aw_bipush_n 15 dL_build_157 (by decide) ?_
    refine aw_iand dL_build_159 ?_
    refine aw_iadd dL_build_160 ?_
    refine aw_bx (as := [Value.ref x, Value.int (nI 1), Value.int (((c >>> ((nI 10) &&& 31)) &&& (nI 7)) - ((c >>> ((nI 10) &&& 31)) &&& (nI 7)) / (nI (s.1 2)) * (nI (s.1 2))), Value.int ((nI 1) + ((c >>> ((nI 13) &&& 31)) &&& (nI 15)))]) (rest := []) mW_L_act hW (fun bx hG => l_act_1 (l := l) (G := G) hG hSB.1 (by omega) (((c >>> ((nI 10) &&& 31)) &&& (nI 7)) - ((c >>> ((nI 10) &&& 31)) &&& (nI 7)) / (nI (s.1 2)) * (nI (s.1 2))) ((nI 1) + ((c >>> ((nI 13) &&& 31)) &&& (nI 15)))) ml_L_30 dL_build_161 rfl rfl (by decide) (Nat.le_of_ble_eq_true rfl) ⟨by omega, by omega⟩ (fun f1 n1 hW1 => ?_)
    refine aw_pop dL_build_164 rfl ?_
    have e9 : bE_1 c s = opS s (opPush s.1 (((c >>> ((nI 10) &&& 31)) &&& (nI 7)) - ((c >>> ((nI 10) &&& 31)) &&& (nI 7)) / (nI (s.1 2)) * (nI (s.1 2))) ((nI 1) + ((c >>> ((nI 13) &&& 31)) &&& (nI 15)))) := if_pos c9
    exact kk f1 n1 _ _ (by rw [e9]; exact hW1) (by rw [e9]; exact hSB.op (vq_push hSB.1.1 (by omega) (((c >>> ((nI 10) &&& 31)) &&& (nI 7)) - ((c >>> ((nI 10) &&& 31)) &&& (nI 7)) / (nI (s.1 2)) * (nI (s.1 2))) ((nI 1) + ((c >>> ((nI 13) &&& 31)) &&& (nI 15))))) (by rw [e9]; exact Nat.le_trans h1 (opS_cnt (cn_opPush s.1 (((c >>> ((nI 10) &&& 31)) &&& (nI 7)) - ((c >>> ((nI 10) &&& 31)) &&& (nI 7)) / (nI (s.1 2)) * (nI (s.1 2))) ((nI 1) + ((c >>> ((nI 13) &&& 31)) &&& (nI 15)))))) (by omega) (by omega)
def bE_2 (c : Int32) (s : SG) : SG := if ((c >>> ((nI 8) &&& 31)) &&& (nI 7)) = nI 1 then opS s (opCatch s.1 (((c >>> ((nI 11) &&& 31)) &&& (nI 7)) - ((c >>> ((nI 11) &&& 31)) &&& (nI 7)) / (nI (s.1 2)) * (nI (s.1 2)))) else s
set_option maxHeartbeats 4000000 in
theorem bk_2 {l : Launch} {G : GT} {Post : PT} {n0 nc ns n x k K : Nat} {H f : HT} {s : SG} {z c : Int32} (hW : BI H x f n s) (hSB : BO K s) (hK : K + 31000 < 16000000) (h1 : 1 ≤ s.1 2) (hnc : nc + 12 ≤ 2000) (hns : ns + 72 ≤ 12000)
    (kk : ∀ (f' : HT) (n' nc' ns' : Nat), BI H x f' n' (bE_2 c s) → BO (K + 500) (bE_2 c s) → 1 ≤ (bE_2 c s).1 2 → nc' ≤ nc + 12 → ns' ≤ ns + 72 → AW l G ML_build 12 720 2000 12000 Post n0 nc' ns' 197 [(4, .int c), (3, .int (nI k)), (2, .int z), (1, .ref x), (0, .ref 0)] [] f' n') : AW l G ML_build 12 720 2000 12000 Post n0 nc ns 165 [(4, .int c), (3, .int (nI k)), (2, .int z), (1, .ref x), (0, .ref 0)] [] f n := by
  refine aw_iload dL_build_165 rfl ?_
  refine aw_bipush_n 8 dL_build_167 (by decide) ?_
  refine aw_ishr dL_build_169 ?_
  refine aw_bipush_n 7 dL_build_170 (by decide) ?_
  refine aw_iand dL_build_172 ?_
  refine aw_iconst_n 1 dL_build_173 (by decide) ?_
  refine aw_icmp_ne (tgt := 197) dL_build_174 (by decide) (fun c9 => ?_) (fun c9 => ?_)
  · have e9 : bE_2 c s = s := if_neg c9
    exact kk f n nc ns (by rw [e9]; exact hW) (by rw [e9]; exact hSB.mono (by omega) (by omega)) (by rw [e9]; exact h1) (by omega) (by omega)
  · refine aw_aload_n dL_build_177 rfl rfl ?_
    refine aw_iconst_n 2 dL_build_178 (by decide) ?_
    refine aw_iload dL_build_179 rfl ?_
    refine aw_bipush_n 11 dL_build_181 (by decide) ?_
    refine aw_ishr dL_build_183 ?_
    refine aw_bipush_n 7 dL_build_184 (by decide) ?_
    refine aw_iand dL_build_186 ?_
    refine aw_aload_n dL_build_187 rfl rfl ?_
    refine aw_bv (as := []) (rest := [Value.int ((c >>> ((nI 11) &&& 31)) &&& (nI 7)), Value.int (nI 2), Value.ref x]) mV_X10_pendulumCount rfl hW (fun bx hG => GX.ga rfl (q_pendulumCount (l := l) (G := G) hG hSB.1 (by omega))) ml_L_34 dL_build_188 rfl rfl (by decide) (Nat.le_of_ble_eq_true rfl) ⟨by omega, by omega⟩ (fun f0 n0 hW => ?_)
    refine aw_irem (nI_ne8 h1 hSB.1.1.cnt) dL_build_191 ?_
    refine aw_iconst_n 0 dL_build_192 (by decide) ?_
    refine aw_bx (as := [Value.ref x, Value.int (nI 2), Value.int (((c >>> ((nI 11) &&& 31)) &&& (nI 7)) - ((c >>> ((nI 11) &&& 31)) &&& (nI 7)) / (nI (s.1 2)) * (nI (s.1 2))), Value.int (nI 0)]) (rest := []) mW_L_act hW (fun bx hG => l_act_2 (l := l) (G := G) hG hSB.1 (by omega) (((c >>> ((nI 11) &&& 31)) &&& (nI 7)) - ((c >>> ((nI 11) &&& 31)) &&& (nI 7)) / (nI (s.1 2)) * (nI (s.1 2))) (nI 0)) ml_L_30 dL_build_193 rfl rfl (by decide) (Nat.le_of_ble_eq_true rfl) ⟨by omega, by omega⟩ (fun f1 n1 hW1 => ?_)
    refine aw_pop dL_build_196 rfl ?_
    have e9 : bE_2 c s = opS s (opCatch s.1 (((c >>> ((nI 11) &&& 31)) &&& (nI 7)) - ((c >>> ((nI 11) &&& 31)) &&& (nI 7)) / (nI (s.1 2)) * (nI (s.1 2)))) := if_pos c9
    exact kk f1 n1 _ _ (by rw [e9]; exact hW1) (by rw [e9]; exact hSB.op (vq_catch hSB.1.1 (by omega) (((c >>> ((nI 11) &&& 31)) &&& (nI 7)) - ((c >>> ((nI 11) &&& 31)) &&& (nI 7)) / (nI (s.1 2)) * (nI (s.1 2))))) (by rw [e9]; exact Nat.le_trans h1 (opS_cnt (cn_opCatch s.1 (((c >>> ((nI 11) &&& 31)) &&& (nI 7)) - ((c >>> ((nI 11) &&& 31)) &&& (nI 7)) / (nI (s.1 2)) * (nI (s.1 2)))))) (by omega) (by omega)
def bE_3 (c : Int32) (s : SG) : SG := if ((c >>> ((nI 8) &&& 31)) &&& (nI 7)) = nI 5 then opS s (opFric s.1 ((c >>> ((nI 11) &&& 31)) &&& (nI 31))) else s
set_option maxHeartbeats 4000000 in
theorem bk_3 {l : Launch} {G : GT} {Post : PT} {n0 nc ns n x k K : Nat} {H f : HT} {s : SG} {z c : Int32} (hW : BI H x f n s) (hSB : BO K s) (hK : K + 31000 < 16000000) (h1 : 1 ≤ s.1 2) (hnc : nc + 12 ≤ 2000) (hns : ns + 72 ≤ 12000)
    (kk : ∀ (f' : HT) (n' nc' ns' : Nat), BI H x f' n' (bE_3 c s) → BO (K + 500) (bE_3 c s) → 1 ≤ (bE_3 c s).1 2 → nc' ≤ nc + 12 → ns' ≤ ns + 72 → AW l G ML_build 12 720 2000 12000 Post n0 nc' ns' 224 [(4, .int c), (3, .int (nI k)), (2, .int z), (1, .ref x), (0, .ref 0)] [] f' n') : AW l G ML_build 12 720 2000 12000 Post n0 nc ns 197 [(4, .int c), (3, .int (nI k)), (2, .int z), (1, .ref x), (0, .ref 0)] [] f n := by
  refine aw_iload dL_build_197 rfl ?_
  refine aw_bipush_n 8 dL_build_199 (by decide) ?_
  refine aw_ishr dL_build_201 ?_
  refine aw_bipush_n 7 dL_build_202 (by decide) ?_
  refine aw_iand dL_build_204 ?_
  refine aw_iconst_n 5 dL_build_205 (by decide) ?_
  refine aw_icmp_ne (tgt := 224) dL_build_206 (by decide) (fun c9 => ?_) (fun c9 => ?_)
  · have e9 : bE_3 c s = s := if_neg c9
    exact kk f n nc ns (by rw [e9]; exact hW) (by rw [e9]; exact hSB.mono (by omega) (by omega)) (by rw [e9]; exact h1) (by omega) (by omega)
  · refine aw_aload_n dL_build_209 rfl rfl ?_
    refine aw_iconst_n 3 dL_build_210 (by decide) ?_
    refine aw_iload dL_build_211 rfl ?_
    refine aw_bipush_n 11 dL_build_213 (by decide) ?_
    refine aw_ishr dL_build_215 ?_
    refine aw_bipush_n 31 dL_build_216 (by decide) ?_
    refine aw_iand dL_build_218 ?_
    refine aw_iconst_n 0 dL_build_219 (by decide) ?_
    refine aw_bx (as := [Value.ref x, Value.int (nI 3), Value.int ((c >>> ((nI 11) &&& 31)) &&& (nI 31)), Value.int (nI 0)]) (rest := []) mW_L_act hW (fun bx hG => l_act_3 (l := l) (G := G) hG hSB.1 (by omega) ((c >>> ((nI 11) &&& 31)) &&& (nI 31)) (nI 0)) ml_L_30 dL_build_220 rfl rfl (by decide) (Nat.le_of_ble_eq_true rfl) ⟨by omega, by omega⟩ (fun f1 n1 hW1 => ?_)
    refine aw_pop dL_build_223 rfl ?_
    have e9 : bE_3 c s = opS s (opFric s.1 ((c >>> ((nI 11) &&& 31)) &&& (nI 31))) := if_pos c9
    exact kk f1 n1 _ _ (by rw [e9]; exact hW1) (by rw [e9]; exact hSB.op (vq_fric hSB.1.1 (by omega) ((c >>> ((nI 11) &&& 31)) &&& (nI 31)))) (by rw [e9]; exact Nat.le_trans h1 (opS_cnt (cn_opFric s.1 ((c >>> ((nI 11) &&& 31)) &&& (nI 31))))) (by omega) (by omega)
def bE_4 (c : Int32) (s : SG) : SG := if ((c >>> ((nI 16) &&& 31)) &&& (nI 3)) = 0 then opS s (opPass s.1 ((nI 1) + ((c >>> ((nI 18) &&& 31)) &&& (nI 15)))) else s
set_option maxHeartbeats 4000000 in
theorem bk_4 {l : Launch} {G : GT} {Post : PT} {n0 nc ns n x k K : Nat} {H f : HT} {s : SG} {z c : Int32} (hW : BI H x f n s) (hSB : BO K s) (hK : K + 31000 < 16000000) (h1 : 1 ≤ s.1 2) (hnc : nc + 12 ≤ 2000) (hns : ns + 72 ≤ 12000)
    (kk : ∀ (f' : HT) (n' nc' ns' : Nat), BI H x f' n' (bE_4 c s) → BO (K + 500) (bE_4 c s) → 1 ≤ (bE_4 c s).1 2 → nc' ≤ nc + 12 → ns' ≤ ns + 72 → AW l G ML_build 12 720 2000 12000 Post n0 nc' ns' 251 [(4, .int c), (3, .int (nI k)), (2, .int z), (1, .ref x), (0, .ref 0)] [] f' n') : AW l G ML_build 12 720 2000 12000 Post n0 nc ns 224 [(4, .int c), (3, .int (nI k)), (2, .int z), (1, .ref x), (0, .ref 0)] [] f n := by
  refine aw_iload dL_build_224 rfl ?_
  refine aw_bipush_n 16 dL_build_226 (by decide) ?_
  refine aw_ishr dL_build_228 ?_
  refine aw_iconst_n 3 dL_build_229 (by decide) ?_
  refine aw_iand dL_build_230 ?_
  refine aw_if_ne (tgt := 251) dL_build_231 (by decide) (fun c9 => ?_) (fun c9 => ?_)
  · have e9 : bE_4 c s = s := if_neg c9
    exact kk f n nc ns (by rw [e9]; exact hW) (by rw [e9]; exact hSB.mono (by omega) (by omega)) (by rw [e9]; exact h1) (by omega) (by omega)
  · refine aw_aload_n dL_build_234 rfl rfl ?_
    refine aw_iconst_n 4 dL_build_235 (by decide) ?_
    refine aw_iconst_n 1 dL_build_236 (by decide) ?_
    refine aw_iload dL_build_237 rfl ?_
    refine aw_bipush_n 18 dL_build_239 (by decide) ?_
    refine aw_ishr dL_build_241 ?_
    refine aw_bipush_n 15 dL_build_242 (by decide) ?_
    refine aw_iand dL_build_244 ?_
    refine aw_iadd dL_build_245 ?_
    refine aw_iconst_n 0 dL_build_246 (by decide) ?_
    refine aw_bx (as := [Value.ref x, Value.int (nI 4), Value.int ((nI 1) + ((c >>> ((nI 18) &&& 31)) &&& (nI 15))), Value.int (nI 0)]) (rest := []) mW_L_act hW (fun bx hG => l_act_4 (l := l) (G := G) hG hSB.1 (by omega) ((nI 1) + ((c >>> ((nI 18) &&& 31)) &&& (nI 15))) (nI 0)) ml_L_30 dL_build_247 rfl rfl (by decide) (Nat.le_of_ble_eq_true rfl) ⟨by omega, by omega⟩ (fun f1 n1 hW1 => ?_)
    refine aw_pop dL_build_250 rfl ?_
    have e9 : bE_4 c s = opS s (opPass s.1 ((nI 1) + ((c >>> ((nI 18) &&& 31)) &&& (nI 15)))) := if_pos c9
    exact kk f1 n1 _ _ (by rw [e9]; exact hW1) (by rw [e9]; exact hSB.op (vq_pass hSB.1.1 (by omega) ((nI 1) + ((c >>> ((nI 18) &&& 31)) &&& (nI 15))))) (by rw [e9]; exact Nat.le_trans h1 (opS_cnt (cn_opPass s.1 ((nI 1) + ((c >>> ((nI 18) &&& 31)) &&& (nI 15)))))) (by omega) (by omega)
def bE_5 (c : Int32) (s : SG) : SG := if ((c >>> ((nI 16) &&& 31)) &&& (nI 7)) = nI 1 then opS s (opPass s.1 ((nI 1) + ((c >>> ((nI 18) &&& 31)) &&& (nI 127)))) else s
set_option maxHeartbeats 4000000 in
theorem bk_5 {l : Launch} {G : GT} {Post : PT} {n0 nc ns n x k K : Nat} {H f : HT} {s : SG} {z c : Int32} (hW : BI H x f n s) (hSB : BO K s) (hK : K + 31000 < 16000000) (h1 : 1 ≤ s.1 2) (hnc : nc + 12 ≤ 2000) (hns : ns + 72 ≤ 12000)
    (kk : ∀ (f' : HT) (n' nc' ns' : Nat), BI H x f' n' (bE_5 c s) → BO (K + 500) (bE_5 c s) → 1 ≤ (bE_5 c s).1 2 → nc' ≤ nc + 12 → ns' ≤ ns + 72 → AW l G ML_build 12 720 2000 12000 Post n0 nc' ns' 280 [(4, .int c), (3, .int (nI k)), (2, .int z), (1, .ref x), (0, .ref 0)] [] f' n') : AW l G ML_build 12 720 2000 12000 Post n0 nc ns 251 [(4, .int c), (3, .int (nI k)), (2, .int z), (1, .ref x), (0, .ref 0)] [] f n := by
  refine aw_iload dL_build_251 rfl ?_
  refine aw_bipush_n 16 dL_build_253 (by decide) ?_
  refine aw_ishr dL_build_255 ?_
  refine aw_bipush_n 7 dL_build_256 (by decide) ?_
  refine aw_iand dL_build_258 ?_
  refine aw_iconst_n 1 dL_build_259 (by decide) ?_
  refine aw_icmp_ne (tgt := 280) dL_build_260 (by decide) (fun c9 => ?_) (fun c9 => ?_)
  · have e9 : bE_5 c s = s := if_neg c9
    exact kk f n nc ns (by rw [e9]; exact hW) (by rw [e9]; exact hSB.mono (by omega) (by omega)) (by rw [e9]; exact h1) (by omega) (by omega)
  · refine aw_aload_n dL_build_263 rfl rfl ?_
    refine aw_iconst_n 4 dL_build_264 (by decide) ?_
    refine aw_iconst_n 1 dL_build_265 (by decide) ?_
    refine aw_iload dL_build_266 rfl ?_
    refine aw_bipush_n 18 dL_build_268 (by decide) ?_
    refine aw_ishr dL_build_270 ?_
    refine aw_bipush_n 127 dL_build_271 (by decide) ?_
    refine aw_iand dL_build_273 ?_
    refine aw_iadd dL_build_274 ?_
    refine aw_iconst_n 0 dL_build_275 (by decide) ?_
    refine aw_bx (as := [Value.ref x, Value.int (nI 4), Value.int ((nI 1) + ((c >>> ((nI 18) &&& 31)) &&& (nI 127))), Value.int (nI 0)]) (rest := []) mW_L_act hW (fun bx hG => l_act_4 (l := l) (G := G) hG hSB.1 (by omega) ((nI 1) + ((c >>> ((nI 18) &&& 31)) &&& (nI 127))) (nI 0)) ml_L_30 dL_build_276 rfl rfl (by decide) (Nat.le_of_ble_eq_true rfl) ⟨by omega, by omega⟩ (fun f1 n1 hW1 => ?_)
    refine aw_pop dL_build_279 rfl ?_
    have e9 : bE_5 c s = opS s (opPass s.1 ((nI 1) + ((c >>> ((nI 18) &&& 31)) &&& (nI 127)))) := if_pos c9
    exact kk f1 n1 _ _ (by rw [e9]; exact hW1) (by rw [e9]; exact hSB.op (vq_pass hSB.1.1 (by omega) ((nI 1) + ((c >>> ((nI 18) &&& 31)) &&& (nI 127))))) (by rw [e9]; exact Nat.le_trans h1 (opS_cnt (cn_opPass s.1 ((nI 1) + ((c >>> ((nI 18) &&& 31)) &&& (nI 127)))))) (by omega) (by omega)
def bE_6 (c : Int32) (s : SG) : SG := if ((c >>> ((nI 16) &&& 31)) &&& (nI 7)) = nI 5 then opS s (opLeg s.1 ((nI 1) + (((c >>> ((nI 19) &&& 31)) &&& (nI 63)) - ((c >>> ((nI 19) &&& 31)) &&& (nI 63)) / (nI 60) * (nI 60)))) else s
set_option maxHeartbeats 4000000 in
theorem bk_6 {l : Launch} {G : GT} {Post : PT} {n0 nc ns n x k K : Nat} {H f : HT} {s : SG} {z c : Int32} (hW : BI H x f n s) (hSB : BO K s) (hK : K + 31000 < 16000000) (h1 : 1 ≤ s.1 2) (hnc : nc + 12 ≤ 2000) (hns : ns + 72 ≤ 12000)
    (kk : ∀ (f' : HT) (n' nc' ns' : Nat), BI H x f' n' (bE_6 c s) → BO (K + 500) (bE_6 c s) → 1 ≤ (bE_6 c s).1 2 → nc' ≤ nc + 12 → ns' ≤ ns + 72 → AW l G ML_build 12 720 2000 12000 Post n0 nc' ns' 312 [(4, .int c), (3, .int (nI k)), (2, .int z), (1, .ref x), (0, .ref 0)] [] f' n') : AW l G ML_build 12 720 2000 12000 Post n0 nc ns 280 [(4, .int c), (3, .int (nI k)), (2, .int z), (1, .ref x), (0, .ref 0)] [] f n := by
  refine aw_iload dL_build_280 rfl ?_
  refine aw_bipush_n 16 dL_build_282 (by decide) ?_
  refine aw_ishr dL_build_284 ?_
  refine aw_bipush_n 7 dL_build_285 (by decide) ?_
  refine aw_iand dL_build_287 ?_
  refine aw_iconst_n 5 dL_build_288 (by decide) ?_
  refine aw_icmp_ne (tgt := 312) dL_build_289 (by decide) (fun c9 => ?_) (fun c9 => ?_)
  · have e9 : bE_6 c s = s := if_neg c9
    exact kk f n nc ns (by rw [e9]; exact hW) (by rw [e9]; exact hSB.mono (by omega) (by omega)) (by rw [e9]; exact h1) (by omega) (by omega)
  · refine aw_aload_n dL_build_292 rfl rfl ?_
    refine aw_iconst_n 5 dL_build_293 (by decide) ?_
    refine aw_iconst_n 1 dL_build_294 (by decide) ?_
    refine aw_iload dL_build_295 rfl ?_
    refine aw_bipush_n 19 dL_build_297 (by decide) ?_
    refine aw_ishr dL_build_299 ?_
    refine aw_bipush_n 63 dL_build_300 (by decide) ?_
    refine aw_iand dL_build_302 ?_
    refine aw_bipush_n 60 dL_build_303 (by decide) ?_
    refine aw_irem (by decide) dL_build_305 ?_
    refine aw_iadd dL_build_306 ?_
    refine aw_iconst_n 0 dL_build_307 (by decide) ?_
    refine aw_bx (as := [Value.ref x, Value.int (nI 5), Value.int ((nI 1) + (((c >>> ((nI 19) &&& 31)) &&& (nI 63)) - ((c >>> ((nI 19) &&& 31)) &&& (nI 63)) / (nI 60) * (nI 60))), Value.int (nI 0)]) (rest := []) mW_L_act hW (fun bx hG => l_act_5 (l := l) (G := G) hG hSB.1 (by omega) ((nI 1) + (((c >>> ((nI 19) &&& 31)) &&& (nI 63)) - ((c >>> ((nI 19) &&& 31)) &&& (nI 63)) / (nI 60) * (nI 60))) (nI 0)) ml_L_30 dL_build_308 rfl rfl (by decide) (Nat.le_of_ble_eq_true rfl) ⟨by omega, by omega⟩ (fun f1 n1 hW1 => ?_)
    refine aw_pop dL_build_311 rfl ?_
    have e9 : bE_6 c s = opS s (opLeg s.1 ((nI 1) + (((c >>> ((nI 19) &&& 31)) &&& (nI 63)) - ((c >>> ((nI 19) &&& 31)) &&& (nI 63)) / (nI 60) * (nI 60)))) := if_pos c9
    exact kk f1 n1 _ _ (by rw [e9]; exact hW1) (by rw [e9]; exact hSB.op (vq_leg hSB.1.1 (by omega) ((nI 1) + (((c >>> ((nI 19) &&& 31)) &&& (nI 63)) - ((c >>> ((nI 19) &&& 31)) &&& (nI 63)) / (nI 60) * (nI 60))))) (by rw [e9]; exact Nat.le_trans h1 (opS_cnt (cn_opLeg s.1 ((nI 1) + (((c >>> ((nI 19) &&& 31)) &&& (nI 63)) - ((c >>> ((nI 19) &&& 31)) &&& (nI 63)) / (nI 60) * (nI 60)))))) (by omega) (by omega)
def bE_7 (c : Int32) (s : SG) : SG := if ((c >>> ((nI 16) &&& 31)) &&& (nI 15)) = nI 2 then opS s (opCut s.1 ((c >>> ((nI 20) &&& 31)) &&& (nI 3))) else s
set_option maxHeartbeats 4000000 in
theorem bk_7 {l : Launch} {G : GT} {Post : PT} {n0 nc ns n x k K : Nat} {H f : HT} {s : SG} {z c : Int32} (hW : BI H x f n s) (hSB : BO K s) (hK : K + 31000 < 16000000) (h1 : 1 ≤ s.1 2) (hnc : nc + 12 ≤ 2000) (hns : ns + 72 ≤ 12000)
    (kk : ∀ (f' : HT) (n' nc' ns' : Nat), BI H x f' n' (bE_7 c s) → BO (K + 500) (bE_7 c s) → 1 ≤ (bE_7 c s).1 2 → nc' ≤ nc + 12 → ns' ≤ ns + 72 → AW l G ML_build 12 720 2000 12000 Post n0 nc' ns' 339 [(4, .int c), (3, .int (nI k)), (2, .int z), (1, .ref x), (0, .ref 0)] [] f' n') : AW l G ML_build 12 720 2000 12000 Post n0 nc ns 312 [(4, .int c), (3, .int (nI k)), (2, .int z), (1, .ref x), (0, .ref 0)] [] f n := by
  refine aw_iload dL_build_312 rfl ?_
  refine aw_bipush_n 16 dL_build_314 (by decide) ?_
  refine aw_ishr dL_build_316 ?_
  refine aw_bipush_n 15 dL_build_317 (by decide) ?_
  refine aw_iand dL_build_319 ?_
  refine aw_iconst_n 2 dL_build_320 (by decide) ?_
  refine aw_icmp_ne (tgt := 339) dL_build_321 (by decide) (fun c9 => ?_) (fun c9 => ?_)
  · have e9 : bE_7 c s = s := if_neg c9
    exact kk f n nc ns (by rw [e9]; exact hW) (by rw [e9]; exact hSB.mono (by omega) (by omega)) (by rw [e9]; exact h1) (by omega) (by omega)
  · refine aw_aload_n dL_build_324 rfl rfl ?_
    refine aw_bipush_n 6 dL_build_325 (by decide) ?_
    refine aw_iload dL_build_327 rfl ?_
    refine aw_bipush_n 20 dL_build_329 (by decide) ?_
    refine aw_ishr dL_build_331 ?_
    refine aw_iconst_n 3 dL_build_332 (by decide) ?_
    refine aw_iand dL_build_333 ?_
    refine aw_iconst_n 0 dL_build_334 (by decide) ?_
    refine aw_bx (as := [Value.ref x, Value.int (nI 6), Value.int ((c >>> ((nI 20) &&& 31)) &&& (nI 3)), Value.int (nI 0)]) (rest := []) mW_L_act hW (fun bx hG => l_act_6 (l := l) (G := G) hG hSB.1 (by omega) ((c >>> ((nI 20) &&& 31)) &&& (nI 3)) (nI 0)) ml_L_30 dL_build_335 rfl rfl (by decide) (Nat.le_of_ble_eq_true rfl) ⟨by omega, by omega⟩ (fun f1 n1 hW1 => ?_)
    refine aw_pop dL_build_338 rfl ?_
    have e9 : bE_7 c s = opS s (opCut s.1 ((c >>> ((nI 20) &&& 31)) &&& (nI 3))) := if_pos c9
    exact kk f1 n1 _ _ (by rw [e9]; exact hW1) (by rw [e9]; exact hSB.op (vq_cut hSB.1.1 (by omega) ((c >>> ((nI 20) &&& 31)) &&& (nI 3)))) (by rw [e9]; exact Nat.le_trans h1 (opS_cnt (cn_opCut s.1 ((c >>> ((nI 20) &&& 31)) &&& (nI 3))))) (by omega) (by omega)
def bE_8 (c : Int32) (s : SG) : SG := if ((c >>> ((nI 16) &&& 31)) &&& (nI 15)) = nI 10 then opS s (opAdd s.1 ((nI 1) + (((c >>> ((nI 20) &&& 31)) &&& (nI 127)) - ((c >>> ((nI 20) &&& 31)) &&& (nI 127)) / (nI 99) * (nI 99)))) else s
set_option maxHeartbeats 4000000 in
theorem bk_8 {l : Launch} {G : GT} {Post : PT} {n0 nc ns n x k K : Nat} {H f : HT} {s : SG} {z c : Int32} (hW : BI H x f n s) (hSB : BO K s) (hK : K + 31000 < 16000000) (h1 : 1 ≤ s.1 2) (hnc : nc + 12 ≤ 2000) (hns : ns + 72 ≤ 12000)
    (kk : ∀ (f' : HT) (n' nc' ns' : Nat), BI H x f' n' (bE_8 c s) → BO (K + 500) (bE_8 c s) → 1 ≤ (bE_8 c s).1 2 → nc' ≤ nc + 12 → ns' ≤ ns + 72 → AW l G ML_build 12 720 2000 12000 Post n0 nc' ns' 372 [(4, .int c), (3, .int (nI k)), (2, .int z), (1, .ref x), (0, .ref 0)] [] f' n') : AW l G ML_build 12 720 2000 12000 Post n0 nc ns 339 [(4, .int c), (3, .int (nI k)), (2, .int z), (1, .ref x), (0, .ref 0)] [] f n := by
  refine aw_iload dL_build_339 rfl ?_
  refine aw_bipush_n 16 dL_build_341 (by decide) ?_
  refine aw_ishr dL_build_343 ?_
  refine aw_bipush_n 15 dL_build_344 (by decide) ?_
  refine aw_iand dL_build_346 ?_
  refine aw_bipush_n 10 dL_build_347 (by decide) ?_
  refine aw_icmp_ne (tgt := 372) dL_build_349 (by decide) (fun c9 => ?_) (fun c9 => ?_)
  · have e9 : bE_8 c s = s := if_neg c9
    exact kk f n nc ns (by rw [e9]; exact hW) (by rw [e9]; exact hSB.mono (by omega) (by omega)) (by rw [e9]; exact h1) (by omega) (by omega)
  · refine aw_aload_n dL_build_352 rfl rfl ?_
    refine aw_iconst_n 0 dL_build_353 (by decide) ?_
    refine aw_iconst_n 1 dL_build_354 (by decide) ?_
    refine aw_iload dL_build_355 rfl ?_
    refine aw_bipush_n 20 dL_build_357 (by decide) ?_
    refine aw_ishr dL_build_359 ?_
    refine aw_bipush_n 127 dL_build_360 (by decide) ?_
    refine aw_iand dL_build_362 ?_
    refine aw_bipush_n 99 dL_build_363 (by decide) ?_
    refine aw_irem (by decide) dL_build_365 ?_
    refine aw_iadd dL_build_366 ?_
    refine aw_iconst_n 0 dL_build_367 (by decide) ?_
    refine aw_bx (as := [Value.ref x, Value.int (nI 0), Value.int ((nI 1) + (((c >>> ((nI 20) &&& 31)) &&& (nI 127)) - ((c >>> ((nI 20) &&& 31)) &&& (nI 127)) / (nI 99) * (nI 99))), Value.int (nI 0)]) (rest := []) mW_L_act hW (fun bx hG => l_act_0 (l := l) (G := G) hG hSB.1 (by omega) ((nI 1) + (((c >>> ((nI 20) &&& 31)) &&& (nI 127)) - ((c >>> ((nI 20) &&& 31)) &&& (nI 127)) / (nI 99) * (nI 99))) (nI 0)) ml_L_30 dL_build_368 rfl rfl (by decide) (Nat.le_of_ble_eq_true rfl) ⟨by omega, by omega⟩ (fun f1 n1 hW1 => ?_)
    refine aw_pop dL_build_371 rfl ?_
    have e9 : bE_8 c s = opS s (opAdd s.1 ((nI 1) + (((c >>> ((nI 20) &&& 31)) &&& (nI 127)) - ((c >>> ((nI 20) &&& 31)) &&& (nI 127)) / (nI 99) * (nI 99)))) := if_pos c9
    exact kk f1 n1 _ _ (by rw [e9]; exact hW1) (by rw [e9]; exact hSB.op (vq_add hSB.1.1 (by omega) ((nI 1) + (((c >>> ((nI 20) &&& 31)) &&& (nI 127)) - ((c >>> ((nI 20) &&& 31)) &&& (nI 127)) / (nI 99) * (nI 99))))) (by rw [e9]; exact Nat.le_trans h1 (opS_cnt (cn_opAdd s.1 ((nI 1) + (((c >>> ((nI 20) &&& 31)) &&& (nI 127)) - ((c >>> ((nI 20) &&& 31)) &&& (nI 127)) / (nI 99) * (nI 99)))))) (by omega) (by omega)
def bStep (c : Int32) (s : SG) : SG := bE_8 c (bE_7 c (bE_6 c (bE_5 c (bE_4 c (bE_3 c (bE_2 c (bE_1 c (bE_0 c s))))))))
def bL3 (G : GT) (s : SG) : Nat → SG
  | 0 => s
  | k + 1 => bStep (atX G (k + 1)) (bL3 G s k)
/-- build's end: a new gym at n -/
def BD (H : HT) (x : Nat) (s : SG) : PT := fun r f' n' => r = .inl (some (.ref x)) ∧ x + 112 ≤ n' ∧ ∃ bx, GW f' x bx n' s ∧ ∀ a, a < x → f' a = H a
set_option maxHeartbeats 4000000 in
theorem bd_l3 {l : Launch} {G : GT} {n0 x : Nat} {H : HT} {z : Int32} (s : SG) (hG9 : gN G ≤ 260) : ∀ (N k : Nat) (f : HT) (n nc ns : Nat), 12 - k = N → k ≤ 12 → BI H x f n (bL3 G s k) → BO (4000 + 4500 * k) (bL3 G s k) → 1 ≤ (bL3 G s k).1 2 → nc ≤ 300 + 108 * k → ns ≤ 2200 + 648 * k → AW l G ML_build 12 720 2000 12000 (BD H x (bL3 G s 12)) n0 nc ns 88 [(3, .int (nI (k + 1))), (2, .int z), (1, .ref x), (0, .ref 0)] [] f n := by
  intro N
  induction N using Nat.strongRecOn with
  | ind N ih =>
    intro k f n nc ns hN hk hW hSB h1 hnc hns
    refine aw_iload_n dL_build_88 rfl rfl ?_
    refine aw_bipush_n 13 dL_build_89 (by decide) ?_
    refine aw_icmp_ge_n (a := k + 1) (b := 13) (by omega) (by omega) (tgt := 378) dL_build_91 (by decide) (fun c => ?_) (fun c => ?_)
    · have hk : k = 12 := by omega
      subst hk
      refine aw_aload_n dL_build_378 rfl rfl ?_
      obtain ⟨w1, bx, w2, w3⟩ := hW
      exact aw_aret rfl (Or.inl ⟨_, rfl⟩) (Or.inr ⟨_, rfl⟩) (by omega) (by omega) dL_build_379 ⟨rfl, w1, bx, w2, w3⟩
    · refine aw_aload_n dL_build_94 rfl rfl ?_
      refine aw_iload_n dL_build_95 rfl rfl ?_
      refine aw_sI (as := [Value.ref 0, Value.int (nI (k + 1))]) (rest := []) mS_L_at (l_at hG9 (by omega)) ml_L_24 dL_build_96 rfl rfl (by decide) (Nat.le_of_ble_eq_true rfl) ⟨by omega, by omega⟩ ?_
      refine aw_istore (L' := [(4, .int (atX G (k + 1))), (3, .int (nI (k + 1))), (2, .int z), (1, .ref x), (0, .ref 0)]) dL_build_99 (Nat.le_of_ble_eq_true rfl) rfl ?_
      refine aw_sub [(4, .int (atX G (k + 1))), (3, .int (nI (k + 1))), (2, .int z), (1, .ref x), (0, .ref 0)] (by simp) ?_
      refine bk_0 hW hSB (by omega) h1 (by omega) (by omega) (fun f n nc0 ns0 hW hSB h1 hnc0 hns0 => ?_)
      refine bk_1 hW hSB (by omega) h1 (by omega) (by omega) (fun f n nc1 ns1 hW hSB h1 hnc1 hns1 => ?_)
      refine bk_2 hW hSB (by omega) h1 (by omega) (by omega) (fun f n nc2 ns2 hW hSB h1 hnc2 hns2 => ?_)
      refine bk_3 hW hSB (by omega) h1 (by omega) (by omega) (fun f n nc3 ns3 hW hSB h1 hnc3 hns3 => ?_)
      refine bk_4 hW hSB (by omega) h1 (by omega) (by omega) (fun f n nc4 ns4 hW hSB h1 hnc4 hns4 => ?_)
      refine bk_5 hW hSB (by omega) h1 (by omega) (by omega) (fun f n nc5 ns5 hW hSB h1 hnc5 hns5 => ?_)
      refine bk_6 hW hSB (by omega) h1 (by omega) (by omega) (fun f n nc6 ns6 hW hSB h1 hnc6 hns6 => ?_)
      refine bk_7 hW hSB (by omega) h1 (by omega) (by omega) (fun f n nc7 ns7 hW hSB h1 hnc7 hns7 => ?_)
      refine bk_8 hW hSB (by omega) h1 (by omega) (by omega) (fun f n nc8 ns8 hW hSB h1 hnc8 hns8 => ?_)
      refine aw_iinc_n (L' := [(3, .int (nI (k + 1 + 1))), (4, .int (atX G (k + 1))), (2, .int z), (1, .ref x), (0, .ref 0)]) 1 dL_build_372 rfl (by decide) (Nat.le_of_ble_eq_true rfl) rfl ?_
      refine aw_goto (tgt := 88) dL_build_375 (by decide) ?_
      refine aw_sub [(3, .int (nI (k + 1 + 1))), (2, .int z), (1, .ref x), (0, .ref 0)] (by simp) ?_
      exact ih _ (by omega) (k + 1) f n nc8 ns8 rfl (by omega) hW (hSB.mono (by omega) (by omega)) h1 (by omega) (by omega)
def bL2 (z : Int32) (s : SG) : Nat → SG
  | 0 => s
  | k + 1 => opS (bL2 z s k) (opLeg (bL2 z s k).1 ((nI 1) + (((z >>> (((nI 5) * (nI k)) &&& 31)) &&& (nI 63)) - ((z >>> (((nI 5) * (nI k)) &&& 31)) &&& (nI 63)) / (nI 60) * (nI 60))))
set_option maxHeartbeats 4000000 in
theorem bd_l2 {l : Launch} {G : GT} {n0 x : Nat} {H : HT} {z : Int32} (s : SG) (hG9 : gN G ≤ 260) : ∀ (N k : Nat) (f : HT) (n nc ns : Nat), 2 - k = N → k ≤ 2 → BI H x f n (bL2 z s k) → BO (3000 + 500 * k) (bL2 z s k) → 1 ≤ (bL2 z s k).1 2 → nc ≤ 250 + 8 * k → ns ≤ 2000 + 48 * k → AW l G ML_build 12 720 2000 12000 (BD H x (bL3 G (bL2 z s 2) 12)) n0 nc ns 55 [(3, .int (nI k)), (2, .int z), (1, .ref x), (0, .ref 0)] [] f n := by
  intro N
  induction N using Nat.strongRecOn with
  | ind N ih =>
    intro k f n nc ns hN hk hW hSB h1 hnc hns
    refine aw_iload_n dL_build_55 rfl rfl ?_
    refine aw_iconst_n 2 dL_build_56 (by decide) ?_
    refine aw_icmp_ge_n (a := k) (b := 2) (by omega) (by omega) (tgt := 86) dL_build_57 (by decide) (fun c => ?_) (fun c => ?_)
    · have hk : k = 2 := by omega
      subst hk
      refine aw_iconst_n 1 dL_build_86 (by decide) ?_
      refine aw_istore_n (L' := [(3, .int (nI (0 + 1))), (2, .int z), (1, .ref x), (0, .ref 0)]) dL_build_87 rfl (Nat.le_of_ble_eq_true rfl) rfl ?_
      exact bd_l3 (bL2 z s 2) hG9 _ 0 f n nc ns rfl (by omega) hW (hSB.mono (by omega) (by omega)) h1 (by omega) (by omega)
    · refine aw_aload_n dL_build_60 rfl rfl ?_
      refine aw_iconst_n 5 dL_build_61 (by decide) ?_
      refine aw_iconst_n 1 dL_build_62 (by decide) ?_
      refine aw_iload_n dL_build_63 rfl rfl ?_
      refine aw_iconst_n 5 dL_build_64 (by decide) ?_
      refine aw_iload_n dL_build_65 rfl rfl ?_
      refine aw_imul dL_build_66 ?_
      refine aw_ishr dL_build_67 ?_
      refine aw_bipush_n 63 dL_build_68 (by decide) ?_
      refine aw_iand dL_build_70 ?_
      refine aw_bipush_n 60 dL_build_71 (by decide) ?_
      refine aw_irem (by decide) dL_build_73 ?_
      refine aw_iadd dL_build_74 ?_
      refine aw_iconst_n 0 dL_build_75 (by decide) ?_
      refine aw_bx (as := [Value.ref x, Value.int (nI 5), Value.int ((nI 1) + (((z >>> (((nI 5) * (nI k)) &&& 31)) &&& (nI 63)) - ((z >>> (((nI 5) * (nI k)) &&& 31)) &&& (nI 63)) / (nI 60) * (nI 60))), Value.int (nI 0)]) (rest := []) mW_L_act hW (fun bx hG => l_act_5 (l := l) (G := G) hG hSB.1 (by omega) ((nI 1) + (((z >>> (((nI 5) * (nI k)) &&& 31)) &&& (nI 63)) - ((z >>> (((nI 5) * (nI k)) &&& 31)) &&& (nI 63)) / (nI 60) * (nI 60))) (nI 0)) ml_L_30 dL_build_76 rfl rfl (by decide) (Nat.le_of_ble_eq_true rfl) ⟨by omega, by omega⟩ (fun f1 n1 hW1 => ?_)
      refine aw_pop dL_build_79 rfl ?_
      refine aw_iinc_n (L' := [(3, .int (nI (k + 1))), (2, .int z), (1, .ref x), (0, .ref 0)]) 1 dL_build_80 rfl (by decide) (Nat.le_of_ble_eq_true rfl) rfl ?_
      refine aw_goto (tgt := 55) dL_build_83 (by decide) ?_
      exact ih _ (by omega) (k + 1) f1 n1 _ _ rfl (by omega) hW1 ((hSB.op (vq_leg hSB.1.1 (by omega) _)).mono (by omega) (by omega)) (Nat.le_trans h1 (opS_cnt (cn_opLeg _ _))) (by omega) (by omega)
def bL1 (z : Int32) : Nat → SG
  | 0 => sg0
  | k + 1 => opS (bL1 z k) (opAdd (bL1 z k).1 ((nI 1) + (((z >>> (((nI 2) + ((nI 3) * (nI k))) &&& 31)) &&& (nI 127)) - ((z >>> (((nI 2) + ((nI 3) * (nI k))) &&& 31)) &&& (nI 127)) / (nI 99) * (nI 99))))
theorem in99 (w : Int32) : inB (nI 1 + ((w &&& nI 127) - (w &&& nI 127) / nI 99 * nI 99)) (nI 1) (nI 99) = true := by
  obtain ⟨m, hm, e⟩ := and_mask (x := w) (k := 7) (by decide)
  have e : w &&& nI 127 = nI m := e
  rw [e]
  have key : ∀ m, m < 128 → inB (nI 1 + (nI m - nI m / nI 99 * nI 99)) (nI 1) (nI 99) = true := by decide +kernel
  exact key m hm
theorem bL1_2 {z : Int32} : ∀ k, k ≤ 8 → (bL1 z k).1 2 = k := by
  intro k
  induction k with
  | zero => intro _; rfl
  | succ k ih =>
    intro h
    have h9 := ih (by omega)
    show (opS (bL1 z k) (opAdd (bL1 z k).1 ((nI 1) + (((z >>> (((nI 2) + ((nI 3) * (nI k))) &&& 31)) &&& (nI 127)) - ((z >>> (((nI 2) + ((nI 3) * (nI k))) &&& 31)) &&& (nI 127)) / (nI 99) * (nI 99))))).1 2 = k + 1
    have e : ∀ a : Int32, inB a (nI 1) (nI 99) = true → (opS (bL1 z k) (opAdd (bL1 z k).1 a)).1 2 = k + 1 := fun a ha => by
      have e0 : opAdd (bL1 z k).1 a = (0, (bL1 z k).1 2, va_up (va_up (bL1 z k).1 (4 + (bL1 z k).1 2) a.toNatClampNeg) 2 ((bL1 z k).1 2 + 1)) := by
        unfold opAdd; rw [if_neg (by rw [ha]; decide), if_neg (by omega)]
      unfold opS
      rw [e0, if_pos rfl]
      exact (up_self (f := va_up (bL1 z k).1 (4 + (bL1 z k).1 2) a.toNatClampNeg) (k := 2) (v := (bL1 z k).1 2 + 1)).trans (by rw [h9])
    exact e _ (in99 _)
theorem nI_add9 {a b : Nat} : nI a + nI b = nI (a + b) := (Int32.ofNat_add a b).symm
set_option maxHeartbeats 4000000 in
theorem bd_l1 {l : Launch} {G : GT} {n0 x m : Nat} {H : HT} {z : Int32} (hG9 : gN G ≤ 260) (hm : m < 4) (hz : z &&& nI 3 = nI m) : ∀ (N k : Nat) (f : HT) (n nc ns : Nat), 3 + m - k = N → k ≤ 3 + m → BI H x f n (bL1 z k) → BO (500 * k) (bL1 z k) → nc ≤ 150 + 8 * k → ns ≤ 1500 + 48 * k → AW l G ML_build 12 720 2000 12000 (BD H x (bL3 G (bL2 z (bL1 z (3 + m)) 2) 12)) n0 nc ns 16 [(3, .int (nI k)), (2, .int z), (1, .ref x), (0, .ref 0)] [] f n := by
  intro N
  induction N using Nat.strongRecOn with
  | ind N ih =>
    intro k f n nc ns hN hk hW hSB hnc hns
    refine aw_iload_n dL_build_16 rfl rfl ?_
    refine aw_iconst_n 3 dL_build_17 (by decide) ?_
    refine aw_iload_n dL_build_18 rfl rfl ?_
    refine aw_iconst_n 3 dL_build_19 (by decide) ?_
    refine aw_iand dL_build_20 ?_
    refine aw_iadd dL_build_21 ?_
    rw [hz, nI_add9]
    refine aw_icmp_ge_n (a := k) (b := 3 + m) (by omega) (by omega) (tgt := 53) dL_build_22 (by decide) (fun c => ?_) (fun c => ?_)
    · have hk : k = 3 + m := by omega
      subst hk
      refine aw_iconst_n 0 dL_build_53 (by decide) ?_
      refine aw_istore_n (L' := [(3, .int (nI 0)), (2, .int z), (1, .ref x), (0, .ref 0)]) dL_build_54 rfl (Nat.le_of_ble_eq_true rfl) rfl ?_
      exact bd_l2 (bL1 z (3 + m)) hG9 _ 0 f n nc ns rfl (by omega) hW (hSB.mono (by omega) (by omega)) (by show 1 ≤ (bL1 z (3 + m)).1 2; rw [bL1_2 _ (by omega)]; omega) (by omega) (by omega)
    · refine aw_aload_n dL_build_25 rfl rfl ?_
      refine aw_iconst_n 0 dL_build_26 (by decide) ?_
      refine aw_iconst_n 1 dL_build_27 (by decide) ?_
      refine aw_iload_n dL_build_28 rfl rfl ?_
      refine aw_iconst_n 2 dL_build_29 (by decide) ?_
      refine aw_iconst_n 3 dL_build_30 (by decide) ?_
      refine aw_iload_n dL_build_31 rfl rfl ?_
      refine aw_imul dL_build_32 ?_
      refine aw_iadd dL_build_33 ?_
      refine aw_ishr dL_build_34 ?_
      refine aw_bipush_n 127 dL_build_35 (by decide) ?_
      refine aw_iand dL_build_37 ?_
      refine aw_bipush_n 99 dL_build_38 (by decide) ?_
      refine aw_irem (by decide) dL_build_40 ?_
      refine aw_iadd dL_build_41 ?_
      refine aw_iconst_n 0 dL_build_42 (by decide) ?_
      refine aw_bx (as := [Value.ref x, Value.int (nI 0), Value.int ((nI 1) + (((z >>> (((nI 2) + ((nI 3) * (nI k))) &&& 31)) &&& (nI 127)) - ((z >>> (((nI 2) + ((nI 3) * (nI k))) &&& 31)) &&& (nI 127)) / (nI 99) * (nI 99))), Value.int (nI 0)]) (rest := []) mW_L_act hW (fun bx hG => l_act_0 (l := l) (G := G) hG hSB.1 (by omega) ((nI 1) + (((z >>> (((nI 2) + ((nI 3) * (nI k))) &&& 31)) &&& (nI 127)) - ((z >>> (((nI 2) + ((nI 3) * (nI k))) &&& 31)) &&& (nI 127)) / (nI 99) * (nI 99))) (nI 0)) ml_L_30 dL_build_43 rfl rfl (by decide) (Nat.le_of_ble_eq_true rfl) ⟨by omega, by omega⟩ (fun f1 n1 hW1 => ?_)
      refine aw_pop dL_build_46 rfl ?_
      refine aw_iinc_n (L' := [(3, .int (nI (k + 1))), (2, .int z), (1, .ref x), (0, .ref 0)]) 1 dL_build_47 rfl (by decide) (Nat.le_of_ble_eq_true rfl) rfl ?_
      refine aw_goto (tgt := 16) dL_build_50 (by decide) ?_
      exact ih _ (by omega) (k + 1) f1 n1 _ _ rfl (by omega) hW1 ((hSB.op (vq_add hSB.1.1 (by omega) _)).mono (by omega) (by omega)) (by omega) (by omega)
/-- the number of pendulums beyond three -/
def bM (G : GT) : Nat := ((atX G 0).toBitVec.toNat) % 4
theorem bM_ok (G : GT) : bM G < 4 ∧ atX G 0 &&& nI 3 = nI (bM G) := by
  refine ⟨Nat.mod_lt _ (by decide), ?_⟩
  apply Int32.toBitVec_inj.mp
  apply BitVec.eq_of_toNat_eq
  have e : ∀ m, m < 2 ^ 31 → (nI m).toBitVec.toNat = m := fun m hm => by
    show (Int32.ofNat m).toBitVec.toNat = m
    rw [Int32.toBitVec_ofNat']
    simp only [BitVec.toNat_ofNat]
    omega
  have hb : bM G < 4 := Nat.mod_lt _ (by decide)
  rw [Int32.toBitVec_and, BitVec.toNat_and, e 3 (by decide), e _ (by omega)]
  exact Nat.and_two_pow_sub_one_eq_mod _ 2
/-- the state that build makes of the script -/
def bS (G : GT) : SG := bL3 G (bL2 (atX G 0) (bL1 (atX G 0) (3 + bM G)) 2) 12
theorem bo_0 {K : Nat} {s : SG} {c : Int32} (h : BO K s) (hK : K + 31000 < 16000000) : BO (K + 500) (bE_0 c s) := by
  unfold bE_0
  exact h.op (vq_push h.1.1 (by omega) _ _)
theorem bo_1 {K : Nat} {s : SG} {c : Int32} (h : BO K s) (hK : K + 31000 < 16000000) : BO (K + 500) (bE_1 c s) := by
  unfold bE_1
  split
  · exact h.op (vq_push h.1.1 (by omega) _ _)
  · exact h.mono (by omega) (by omega)
theorem bo_2 {K : Nat} {s : SG} {c : Int32} (h : BO K s) (hK : K + 31000 < 16000000) : BO (K + 500) (bE_2 c s) := by
  unfold bE_2
  split
  · exact h.op (vq_catch h.1.1 (by omega) _)
  · exact h.mono (by omega) (by omega)
theorem bo_3 {K : Nat} {s : SG} {c : Int32} (h : BO K s) (hK : K + 31000 < 16000000) : BO (K + 500) (bE_3 c s) := by
  unfold bE_3
  split
  · exact h.op (vq_fric h.1.1 (by omega) _)
  · exact h.mono (by omega) (by omega)
theorem bo_4 {K : Nat} {s : SG} {c : Int32} (h : BO K s) (hK : K + 31000 < 16000000) : BO (K + 500) (bE_4 c s) := by
  unfold bE_4
  split
  · exact h.op (vq_pass h.1.1 (by omega) _)
  · exact h.mono (by omega) (by omega)
theorem bo_5 {K : Nat} {s : SG} {c : Int32} (h : BO K s) (hK : K + 31000 < 16000000) : BO (K + 500) (bE_5 c s) := by
  unfold bE_5
  split
  · exact h.op (vq_pass h.1.1 (by omega) _)
  · exact h.mono (by omega) (by omega)
theorem bo_6 {K : Nat} {s : SG} {c : Int32} (h : BO K s) (hK : K + 31000 < 16000000) : BO (K + 500) (bE_6 c s) := by
  unfold bE_6
  split
  · exact h.op (vq_leg h.1.1 (by omega) _)
  · exact h.mono (by omega) (by omega)
theorem bo_7 {K : Nat} {s : SG} {c : Int32} (h : BO K s) (hK : K + 31000 < 16000000) : BO (K + 500) (bE_7 c s) := by
  unfold bE_7
  split
  · exact h.op (vq_cut h.1.1 (by omega) _)
  · exact h.mono (by omega) (by omega)
theorem bo_8 {K : Nat} {s : SG} {c : Int32} (h : BO K s) (hK : K + 31000 < 16000000) : BO (K + 500) (bE_8 c s) := by
  unfold bE_8
  split
  · exact h.op (vq_add h.1.1 (by omega) _)
  · exact h.mono (by omega) (by omega)
theorem BO.e {K : Nat} {s : SG} {c : Int32} (h : BO K s) (hK : K + 40000 < 16000000) : BO (K + 4500) (bStep c s) := by
  unfold bStep
  have h0 := bo_0 (c := c) h (by omega)
  have h1 := bo_1 (c := c) h0 (by omega)
  have h2 := bo_2 (c := c) h1 (by omega)
  have h3 := bo_3 (c := c) h2 (by omega)
  have h4 := bo_4 (c := c) h3 (by omega)
  have h5 := bo_5 (c := c) h4 (by omega)
  have h6 := bo_6 (c := c) h5 (by omega)
  have h7 := bo_7 (c := c) h6 (by omega)
  have h8 := bo_8 (c := c) h7 (by omega)
  exact h8
theorem bS_ok (G : GT) : BO 60000 (bS G) := by
  have h0 : BO 0 sg0 := ⟨SB_0, rfl⟩
  have h1 : ∀ k, k ≤ 8 → BO (500 * k) (bL1 (atX G 0) k) := by
    intro k
    induction k with
    | zero => intro _; exact h0
    | succ k ih => intro h; exact (BO.op (ih (by omega)) (vq_add (ih (by omega)).1.1 (by omega) _)).mono (by omega) (by omega)
  have h2 := (h1 (3 + bM G) (by have := (bM_ok G).1; omega)).mono (K' := 4000) (by have := (bM_ok G).1; omega) (by decide)
  have h25 : ∀ k, k ≤ 2 → BO (4000 + 500 * k) (bL2 (atX G 0) (bL1 (atX G 0) (3 + bM G)) k) := by
    intro k
    induction k with
    | zero => intro _; exact h2
    | succ k ih => intro h; exact (BO.op (ih (by omega)) (vq_leg (ih (by omega)).1.1 (by omega) _)).mono (by omega) (by omega)
  have h3 : ∀ k, k ≤ 12 → BO (6000 + 4500 * k) (bL3 G (bL2 (atX G 0) (bL1 (atX G 0) (3 + bM G)) 2) k) := by
    intro k
    induction k with
    | zero =>
      intro _
      exact (h25 2 (by decide)).mono (by decide) (by decide)
    | succ k ih => intro h; exact (BO.e (ih (by omega)) (by omega)).mono (by omega) (by omega)
  exact h3 12 (by decide)
set_option maxHeartbeats 4000000 in
theorem l_build {l : Launch} {G : GT} {n : Nat} {H : HT} (hG9 : gN G ≤ 260) (hn : o0 ≤ n) : AM l G yL_build (.code yL_build cL_build 5 (some (.object RX10))) 12 720 2000 12000 [.ref 0] H n (BD H n (bS G)) := by
  refine aw_enter (M := ML_build) rfl rfl (by decide +kernel) rfl (Nat.le_of_ble_eq_true rfl) ?_
  show AW l G ML_build 12 720 2000 12000 _ n 0 0 0 [(0, .ref 0)] [] _ n
  refine aw_new fn_L_18 (zv_all rfl) (by decide) (Nat.le_of_ble_eq_true rfl) dL_build_0 ?_
  refine aw_dup dL_build_3 rfl ?_
  refine aw_iP (as := []) (rest := [.ref n]) mI_X10_init (g_init (x := n) hn up_self) ml_L_23 dL_build_4 rfl rfl (by decide) (Nat.le_of_ble_eq_true rfl) ⟨Nat.le_of_ble_eq_true rfl, Nat.le_of_ble_eq_true rfl⟩ (fun _ _ _ h => by cases h.1) (fun r1 f1 n1 _ h => ?_)
  obtain ⟨g1, g2, hG, hF⟩ := h
  cases g1; subst g2
  refine aw_astore_n (L' := [(1, .ref n), (0, .ref 0)]) dL_build_7 rfl (Nat.le_of_ble_eq_true rfl) rfl ?_
  refine aw_aload_n dL_build_8 rfl rfl ?_
  refine aw_iconst_n 0 dL_build_9 (by decide) ?_
  refine aw_sI (as := [Value.ref 0, Value.int (nI 0)]) (rest := []) mS_L_at (l_at hG9 (by decide)) ml_L_24 dL_build_10 rfl rfl (by decide) (Nat.le_of_ble_eq_true rfl) ⟨Nat.le_of_ble_eq_true rfl, Nat.le_of_ble_eq_true rfl⟩ ?_
  refine aw_istore_n (L' := [(2, .int (atX G 0)), (1, .ref n), (0, .ref 0)]) dL_build_13 rfl (Nat.le_of_ble_eq_true rfl) rfl ?_
  refine aw_iconst_n 0 dL_build_14 (by decide) ?_
  refine aw_istore_n (L' := [(3, .int (nI 0)), (2, .int (atX G 0)), (1, .ref n), (0, .ref 0)]) dL_build_15 rfl (Nat.le_of_ble_eq_true rfl) rfl ?_
  refine bd_l1 hG9 (bM_ok G).1 (bM_ok G).2 _ 0 f1 _ _ _ rfl (Nat.zero_le _) ⟨by omega, n + 112, hG, fun a ha => (hF a ha).trans (up_ne (by omega))⟩ ⟨SB_0, rfl⟩ (Nat.le_of_ble_eq_true rfl) (Nat.le_of_ble_eq_true rfl)
