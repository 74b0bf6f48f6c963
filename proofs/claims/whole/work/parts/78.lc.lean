abbrev ML (hh : List ExceptionTableEntry) (nm : String) : MT := (RL, cL_law, 9, some .boolean, hh, nm)
def LPo : PT := fun r _ _ => r = .inl (some (.int 1))
def mAt (H : HT) (o : Nat) (I : Nat → Int32) (A : Nat → Nat → Int32) : Prop := ∀ j, j < 9 → H (o + j) = mC o I A j
theorem mAt.self {H : HT} {o : Nat} {I : Nat → Int32} {A : Nat → Nat → Int32} (h : mAt H o I A) : mU H o I A = H := rU_self h
theorem mAt.new {H : HT} {o : Nat} {I : Nat → Int32} {A : Nat → Nat → Int32} : mAt (mU H o I A) o I A := fun j hj => rU_at j hj
theorem mAt.fr {H f : HT} {o : Nat} {I : Nat → Int32} {A : Nat → Nat → Int32} (h : mAt H o I A) (e : ∀ a, o ≤ a → a < o + 9 → f a = H a) : mAt f o I A := fun j hj => (e (o + j) (by omega) (by omega)).trans (h j hj)
theorem mAt.obj {H : HT} {o : Nat} {I : Nat → Int32} {A : Nat → Nat → Int32} (h : mAt H o I A) : H o = .inr (7, mFs o I) := h 0 (by decide)
/-- the law's world between two calls -/
def LI (f : HT) (bp n : Nat) (s : SG) : Prop := GW f 31 bp n s ∧ (∃ (I : Nat → Int32) (A : Nat → Nat → Int32), mAt f 144 I A ∧ MR I A s) ∧ (∃ o : Nat → Int64, f 153 = lcell o) ∧ (∃ od : Nat → UInt64, f 154 = dcell od) ∧ 155 ≤ n ∧ (bp = 143 ∨ 155 ≤ bp)
def LGo (l : Launch) (G : GT) (n0 t : Nat) (hh : List ExceptionTableEntry) (nm : String) : Prop := ∀ (f : HT) (bp n : Nat) (s : SG) (nc ns : Nat), LI f bp n s → SB (30500 * (t + 1)) s → nc ≤ 200 + 12 * (t + 1) → ns ≤ 3000 + 360 * (t + 1) → AW l G (ML hh nm) 2048 94400 603072 7207018 LPo n0 nc ns 2549 [(5, .int (nI (3 * t))), (4, .ref 154), (3, .ref 153), (2, .ref 144), (1, .ref 31), (0, .ref 0)] [] f n
def LCase (l : Launch) (G : GT) (n0 t : Nat) (hh : List ExceptionTableEntry) (nm : String) (pc : Nat) : Prop := ∀ (f : HT) (bp n : Nat) (s : SG) (nc ns : Nat), LI f bp n s → SB (30500 * t) s → nc ≤ 200 + 12 * t → ns ≤ 3000 + 360 * t → AW l G (ML hh nm) 2048 94400 603072 7207018 LPo n0 nc ns pc [(5, .int (nI (3 * t))), (4, .ref 154), (3, .ref 153), (2, .ref 144), (1, .ref 31), (0, .ref 0)] [] f n
theorem RQ.pg {l : Launch} {G : GT} {y : MethodName} {w : Cond} {fr lo mc ms : Nat} {as : List Value} {H f : HT} {n o : Nat} {I : Nat → Int32} {A : Nat → Nat → Int32} {s : SG} {q : Nat × Nat} (hR : MR I A s) (h : AM l G y w fr lo mc ms as H n (RQ f o I A q n)) : AM l G y w fr lo mc ms as H n (PG f o (nI q.2) s q.1 n) :=
  AM.post h fun r f' n' hr => by
    obtain ⟨h1, h2, h3⟩ := hr
    exact ⟨h1, h3, _, _, h2, hR.keep (fun k h _ _ => up_ne h) (fun _ _ _ _ => rfl), up_self⟩
theorem RLs.pg {l : Launch} {G : GT} {y : MethodName} {w : Cond} {fr lo mc ms : Nat} {as : List Value} {H f : HT} {n o : Nat} {I : Nat → Int32} {A : Nat → Nat → Int32} {s : SG} {q : Nat × Nat} (hR : MR I A s) (h : AM l G y w fr lo mc ms as H n (RLs f o I A q n)) : AM l G y w fr lo mc ms as H n (PG f o (nI q.2) s q.1 n) :=
  AM.post h fun r f' n' hr => by
    obtain ⟨h1, h2, A', h3, h4⟩ := hr
    exact ⟨h1, h2, _, _, h3, hR.keep (fun k h _ _ => up_ne h) (fun j _ h6 _ => h4 j h6), up_self⟩
theorem nI_0c {c : Nat} (hc : c ≤ 3) (h : nI c = 0) : c = 0 := by
  rcases (by omega : c = 0 ∨ c = 1 ∨ c = 2 ∨ c = 3) with rfl | rfl | rfl | rfl
  · rfl
  · exact absurd h (by decide)
  · exact absurd h (by decide)
  · exact absurd h (by decide)
theorem lcmp_same (x : Int64) : lg_cmp x x = 0 := by simp [lg_cmp]
theorem sc_in {k L : Nat} (h : k < L) (hL : L ≤ 1536) : vp_in (nI k) L := vp_in_nI h (by omega)
set_option maxHeartbeats 4000000 in
theorem lc_0 {l : Launch} {G : GT} {n0 t : Nat} {hh : List ExceptionTableEntry} {nm : String} (hG9 : gN G ≤ 1536) (ht : 3 * t + 2 < gN G) (ht9 : t < 512) (hgo : LGo l G n0 t hh nm) : LCase l G n0 t hh nm 244 := by
  intro f bp n s nc ns hI hSB hnc hns
  obtain ⟨hW, ⟨I, A, hm, hR⟩, ⟨o, hl⟩, ⟨od, hd⟩, hn155, hbp⟩ := hI
  have hB := hSB.1
  have hc8 := hSB.2.1
  have hK9 : 30500 * t + 30500 < 16000000 := by omega
  obtain ⟨h0, ⟨J, B, hst, hS⟩, -, -, -, ⟨T1, hk1⟩, ⟨T4, hk4⟩, -, ⟨Lc, hcd, hcl, hcx⟩, hox, hbx⟩ := id hW
  have hcm : (opAdd s.1 (gX G ((3 * t) + 1))).1 ≤ 3 := Nat.le_trans (m := 2) (by unfold opAdd; (repeat' split) <;> exact Nat.le_of_ble_eq_true rfl) (by decide)
  refine aw_aload_n dL_law_244 rfl rfl ?_
  refine aw_aload_n dL_law_245 rfl rfl ?_
  refine aw_iload dL_law_246 rfl ?_
  refine aw_iconst_n 1 dL_law_248 (by decide) ?_
  refine aw_iadd_n dL_law_249 ?_
  refine aw_sald (sc_in (by omega) hG9) dL_law_250 ?_
  rw [nIc (by omega)]
  refine aw_aload_n dL_law_251 rfl rfl ?_
  refine aw_sW (as := [Value.ref 31, Value.int (gX G ((3 * t) + 1)), Value.ref 153]) (rest := []) mW_L_addPendulum (w_addPendulum (l := l) (G := G) hW hSB hK9 (by omega) (by omega) (by omega) hl (gX G ((3 * t) + 1))) ml_L_149 dL_law_252 rfl rfl (by decide) (Nat.le_of_ble_eq_true rfl) ⟨by omega, by omega⟩ (fun _ _ _ h => by cases h.1) (fun r1 f1 n1 hn1 h => ?_)
  obtain ⟨g1, -, bp1, o1, hb1, hG, hu1, hv1, hF⟩ := h
  cases g1
  have hm1 := hm.fr (f := f1) (fun a _ _ => hF a (by omega) (by omega) (by omega) (by omega))
  have hoth := hF 154 (by omega) (by omega) (by omega) (by omega)
  refine aw_istore (L' := [(6, .int (nI ((opAdd s.1 (gX G ((3 * t) + 1))).1))), (5, .int (nI (3 * t))), (4, .ref 154), (3, .ref 153), (2, .ref 144), (1, .ref 31), (0, .ref 0)]) dL_law_255 (Nat.le_of_ble_eq_true rfl) rfl ?_
  refine aw_aload_n dL_law_257 rfl rfl ?_
  refine aw_aload_n dL_law_258 rfl rfl ?_
  refine aw_iload dL_law_259 rfl ?_
  refine aw_iconst_n 1 dL_law_261 (by decide) ?_
  refine aw_iadd_n dL_law_262 ?_
  refine aw_sald (sc_in (by omega) hG9) dL_law_263 ?_
  rw [nIc (by omega)]
  have hq_m := mo_addPendulum (l := l) (G := G) (n := n1) (f := f1) (o := 144) (I := I) (A := A) hR hB hc8 (gX G ((3 * t) + 1))
  rw [hm1.self] at hq_m
  refine aw_cP (as := [Value.int (gX G ((3 * t) + 1))]) (rest := []) (MV.c mV_X11_addPendulum) hq_m ml_L_154 (RC.w hm1.obj rfl) dL_law_264 rfl rfl (by decide) (Nat.le_of_ble_eq_true rfl) ⟨by omega, by omega⟩ (fun _ _ _ h => by cases h.1) (fun r2 f2 n2 hn2 h => ?_)
  obtain ⟨g1, g2, I2, A2, hf2, hR2, h12⟩ := h
  cases g1
  have g2 := g2.symm
  subst g2
  have hm2 : mAt f2 144 I2 A2 := by rw [hf2]; exact mAt.new
  have hE2 : ∀ a, (a < 144 ∨ 153 ≤ a) → f2 a = f1 a := fun a h => by rw [hf2]; exact rU_out (by omega)
  have hG2 := hG.fr (f := f2) (fun a _ _ => hE2 a (by omega)) (hE2 bp1 (by omega)) (Nat.le_refl _)
  refine aw_istore (L' := [(7, .int (nI (opAdd s.1 (gX G ((3 * t) + 1))).2.1)), (6, .int (nI ((opAdd s.1 (gX G ((3 * t) + 1))).1))), (5, .int (nI (3 * t))), (4, .ref 154), (3, .ref 153), (2, .ref 144), (1, .ref 31), (0, .ref 0)]) dL_law_267 (Nat.le_of_ble_eq_true rfl) rfl ?_
  refine aw_aload_n dL_law_269 rfl rfl ?_
  have hq_t := m_thrown (l := l) (G := G) (n := n1) (f := f2) (o := 144) (A := A2) h12
  rw [hm2.self] at hq_t
  refine aw_cI (as := []) (rest := []) (MV.c mV_X11_thrown) hq_t ml_L_155 (RC.w hm2.obj rfl) dL_law_270 rfl rfl (by decide) (Nat.le_of_ble_eq_true rfl) ⟨by omega, by omega⟩ ?_
  refine aw_iload dL_law_273 rfl ?_
  refine aw_icmp_eq (tgt := 280) dL_law_275 (by decide) (fun c_1 => ?_) (fun c_1 => by exfalso; exact c_1 rfl)
  refine aw_iload dL_law_280 rfl ?_
  refine aw_if_ne (tgt := 297) dL_law_282 (by decide) (fun c_2 => ?_) (fun c_2 => ?_)
  · refine aw_goto (tgt := 2549) dL_law_297 (by decide) ?_
    refine aw_sub [(5, .int (nI (3 * t))), (4, .ref 154), (3, .ref 153), (2, .ref 144), (1, .ref 31), (0, .ref 0)] (by simp) ?_
    exact hgo f2 bp1 n1 (opS s (opAdd s.1 (gX G ((3 * t) + 1)))) _ _ ⟨hG2, ⟨I2, A2, hm2, hR2⟩, ⟨o1, (hE2 153 (by omega)).trans hu1⟩, ⟨od, (hE2 154 (by omega)).trans (hoth.trans hd)⟩, by omega, by omega⟩ (by rw [show 30500 * (t + 1) = 30500 * t + 30500 by omega]; exact hSB.chg hK9 (vq_add hB (by omega) (gX G ((3 * t) + 1)))) (by omega) (by omega)
  · have hc0 := nI_0c hcm c_2
    refine aw_aload_n dL_law_285 rfl rfl ?_
    refine aw_iconst_n 0 dL_law_286 (by decide) ?_
    refine aw_lald ((hE2 153 (by omega)).trans hu1) (vp_in_nI (by decide) (by decide)) dL_law_287 ?_
    rw [nIc (by decide), hv1 hc0]
    refine aw_iload dL_law_288 rfl ?_
    refine aw_i2l dL_law_290 ?_
    refine aw_lcmp dL_law_291 ?_
    refine aw_if_eq (tgt := 297) dL_law_292 (by decide) (fun c_3 => ?_) (fun c_3 => by exfalso; exact c_3 (lcmp_same _))
    refine aw_goto (tgt := 2549) dL_law_297 (by decide) ?_
    refine aw_sub [(5, .int (nI (3 * t))), (4, .ref 154), (3, .ref 153), (2, .ref 144), (1, .ref 31), (0, .ref 0)] (by simp) ?_
    exact hgo f2 bp1 n1 (opS s (opAdd s.1 (gX G ((3 * t) + 1)))) _ _ ⟨hG2, ⟨I2, A2, hm2, hR2⟩, ⟨o1, (hE2 153 (by omega)).trans hu1⟩, ⟨od, (hE2 154 (by omega)).trans (hoth.trans hd)⟩, by omega, by omega⟩ (by rw [show 30500 * (t + 1) = 30500 * t + 30500 by omega]; exact hSB.chg hK9 (vq_add hB (by omega) (gX G ((3 * t) + 1)))) (by omega) (by omega)
set_option maxHeartbeats 4000000 in
theorem lc_1 {l : Launch} {G : GT} {n0 t : Nat} {hh : List ExceptionTableEntry} {nm : String} (hG9 : gN G ≤ 1536) (ht : 3 * t + 2 < gN G) (ht9 : t < 512) (hgo : LGo l G n0 t hh nm) : LCase l G n0 t hh nm 300 := by
  intro f bp n s nc ns hI hSB hnc hns
  obtain ⟨hW, ⟨I, A, hm, hR⟩, ⟨o, hl⟩, ⟨od, hd⟩, hn155, hbp⟩ := hI
  have hB := hSB.1
  have hc8 := hSB.2.1
  have hK9 : 30500 * t + 30500 < 16000000 := by omega
  obtain ⟨h0, ⟨J, B, hst, hS⟩, -, -, -, ⟨T1, hk1⟩, ⟨T4, hk4⟩, -, ⟨Lc, hcd, hcl, hcx⟩, hox, hbx⟩ := id hW
  have hcm : (opPush s.1 (gX G ((3 * t) + 1)) (gX G ((3 * t) + 2))).1 ≤ 3 := Nat.le_trans (m := 3) (by unfold opPush; (repeat' split) <;> exact Nat.le_of_ble_eq_true rfl) (by decide)
  refine aw_aload_n dL_law_300 rfl rfl ?_
  refine aw_aload_n dL_law_301 rfl rfl ?_
  refine aw_iload dL_law_302 rfl ?_
  refine aw_iconst_n 1 dL_law_304 (by decide) ?_
  refine aw_iadd_n dL_law_305 ?_
  refine aw_sald (sc_in (by omega) hG9) dL_law_306 ?_
  rw [nIc (by omega)]
  refine aw_aload_n dL_law_307 rfl rfl ?_
  refine aw_iload dL_law_308 rfl ?_
  refine aw_iconst_n 2 dL_law_310 (by decide) ?_
  refine aw_iadd_n dL_law_311 ?_
  refine aw_sald (sc_in (by omega) hG9) dL_law_312 ?_
  rw [nIc (by omega)]
  refine aw_aload_n dL_law_313 rfl rfl ?_
  refine aw_sW (as := [Value.ref 31, Value.int (gX G ((3 * t) + 1)), Value.int (gX G ((3 * t) + 2)), Value.ref 153]) (rest := []) mW_L_push (w_push (l := l) (G := G) hW hSB hK9 (by omega) (by omega) (by omega) hl (gX G ((3 * t) + 1)) (gX G ((3 * t) + 2))) ml_L_158 dL_law_314 rfl rfl (by decide) (Nat.le_of_ble_eq_true rfl) ⟨by omega, by omega⟩ (fun _ _ _ h => by cases h.1) (fun r1 f1 n1 hn1 h => ?_)
  obtain ⟨g1, -, bp1, o1, hb1, hG, hu1, hv1, hF⟩ := h
  cases g1
  have hm1 := hm.fr (f := f1) (fun a _ _ => hF a (by omega) (by omega) (by omega) (by omega))
  have hoth := hF 154 (by omega) (by omega) (by omega) (by omega)
  refine aw_istore (L' := [(6, .int (nI ((opPush s.1 (gX G ((3 * t) + 1)) (gX G ((3 * t) + 2))).1))), (5, .int (nI (3 * t))), (4, .ref 154), (3, .ref 153), (2, .ref 144), (1, .ref 31), (0, .ref 0)]) dL_law_317 (Nat.le_of_ble_eq_true rfl) rfl ?_
  refine aw_aload_n dL_law_319 rfl rfl ?_
  refine aw_aload_n dL_law_320 rfl rfl ?_
  refine aw_iload dL_law_321 rfl ?_
  refine aw_iconst_n 1 dL_law_323 (by decide) ?_
  refine aw_iadd_n dL_law_324 ?_
  refine aw_sald (sc_in (by omega) hG9) dL_law_325 ?_
  rw [nIc (by omega)]
  refine aw_aload_n dL_law_326 rfl rfl ?_
  refine aw_iload dL_law_327 rfl ?_
  refine aw_iconst_n 2 dL_law_329 (by decide) ?_
  refine aw_iadd_n dL_law_330 ?_
  refine aw_sald (sc_in (by omega) hG9) dL_law_331 ?_
  rw [nIc (by omega)]
  have hq_m := mo_push (l := l) (G := G) (n := n1) (f := f1) (o := 144) (I := I) (A := A) hR hB hc8 (gX G ((3 * t) + 1)) (gX G ((3 * t) + 2))
  rw [hm1.self] at hq_m
  refine aw_cP (as := [Value.int (gX G ((3 * t) + 1)), Value.int (gX G ((3 * t) + 2))]) (rest := []) (MV.c mV_X11_push) hq_m ml_L_161 (RC.w hm1.obj rfl) dL_law_332 rfl rfl (by decide) (Nat.le_of_ble_eq_true rfl) ⟨by omega, by omega⟩ (fun _ _ _ h => by cases h.1) (fun r2 f2 n2 hn2 h => ?_)
  obtain ⟨g1, g2, I2, A2, hf2, hR2, h12⟩ := h
  cases g1
  have g2 := g2.symm
  subst g2
  have hm2 : mAt f2 144 I2 A2 := by rw [hf2]; exact mAt.new
  have hE2 : ∀ a, (a < 144 ∨ 153 ≤ a) → f2 a = f1 a := fun a h => by rw [hf2]; exact rU_out (by omega)
  have hG2 := hG.fr (f := f2) (fun a _ _ => hE2 a (by omega)) (hE2 bp1 (by omega)) (Nat.le_refl _)
  refine aw_istore (L' := [(7, .int (nI (opPush s.1 (gX G ((3 * t) + 1)) (gX G ((3 * t) + 2))).2.1)), (6, .int (nI ((opPush s.1 (gX G ((3 * t) + 1)) (gX G ((3 * t) + 2))).1))), (5, .int (nI (3 * t))), (4, .ref 154), (3, .ref 153), (2, .ref 144), (1, .ref 31), (0, .ref 0)]) dL_law_335 (Nat.le_of_ble_eq_true rfl) rfl ?_
  refine aw_aload_n dL_law_337 rfl rfl ?_
  have hq_t := m_thrown (l := l) (G := G) (n := n1) (f := f2) (o := 144) (A := A2) h12
  rw [hm2.self] at hq_t
  refine aw_cI (as := []) (rest := []) (MV.c mV_X11_thrown) hq_t ml_L_155 (RC.w hm2.obj rfl) dL_law_338 rfl rfl (by decide) (Nat.le_of_ble_eq_true rfl) ⟨by omega, by omega⟩ ?_
  refine aw_iload dL_law_341 rfl ?_
  refine aw_icmp_eq (tgt := 348) dL_law_343 (by decide) (fun c_1 => ?_) (fun c_1 => by exfalso; exact c_1 rfl)
  refine aw_iload dL_law_348 rfl ?_
  refine aw_if_ne (tgt := 365) dL_law_350 (by decide) (fun c_2 => ?_) (fun c_2 => ?_)
  · refine aw_goto (tgt := 2549) dL_law_365 (by decide) ?_
    refine aw_sub [(5, .int (nI (3 * t))), (4, .ref 154), (3, .ref 153), (2, .ref 144), (1, .ref 31), (0, .ref 0)] (by simp) ?_
    exact hgo f2 bp1 n1 (opS s (opPush s.1 (gX G ((3 * t) + 1)) (gX G ((3 * t) + 2)))) _ _ ⟨hG2, ⟨I2, A2, hm2, hR2⟩, ⟨o1, (hE2 153 (by omega)).trans hu1⟩, ⟨od, (hE2 154 (by omega)).trans (hoth.trans hd)⟩, by omega, by omega⟩ (by rw [show 30500 * (t + 1) = 30500 * t + 30500 by omega]; exact hSB.chg hK9 (vq_push hB (by omega) (gX G ((3 * t) + 1)) (gX G ((3 * t) + 2)))) (by omega) (by omega)
  · have hc0 := nI_0c hcm c_2
    refine aw_aload_n dL_law_353 rfl rfl ?_
    refine aw_iconst_n 0 dL_law_354 (by decide) ?_
    refine aw_lald ((hE2 153 (by omega)).trans hu1) (vp_in_nI (by decide) (by decide)) dL_law_355 ?_
    rw [nIc (by decide), hv1 hc0]
    refine aw_iload dL_law_356 rfl ?_
    refine aw_i2l dL_law_358 ?_
    refine aw_lcmp dL_law_359 ?_
    refine aw_if_eq (tgt := 365) dL_law_360 (by decide) (fun c_3 => ?_) (fun c_3 => by exfalso; exact c_3 (lcmp_same _))
    refine aw_goto (tgt := 2549) dL_law_365 (by decide) ?_
    refine aw_sub [(5, .int (nI (3 * t))), (4, .ref 154), (3, .ref 153), (2, .ref 144), (1, .ref 31), (0, .ref 0)] (by simp) ?_
    exact hgo f2 bp1 n1 (opS s (opPush s.1 (gX G ((3 * t) + 1)) (gX G ((3 * t) + 2)))) _ _ ⟨hG2, ⟨I2, A2, hm2, hR2⟩, ⟨o1, (hE2 153 (by omega)).trans hu1⟩, ⟨od, (hE2 154 (by omega)).trans (hoth.trans hd)⟩, by omega, by omega⟩ (by rw [show 30500 * (t + 1) = 30500 * t + 30500 by omega]; exact hSB.chg hK9 (vq_push hB (by omega) (gX G ((3 * t) + 1)) (gX G ((3 * t) + 2)))) (by omega) (by omega)
set_option maxHeartbeats 4000000 in
theorem lc_2 {l : Launch} {G : GT} {n0 t : Nat} {hh : List ExceptionTableEntry} {nm : String} (hG9 : gN G ≤ 1536) (ht : 3 * t + 2 < gN G) (ht9 : t < 512) (hgo : LGo l G n0 t hh nm) : LCase l G n0 t hh nm 368 := by
  intro f bp n s nc ns hI hSB hnc hns
  obtain ⟨hW, ⟨I, A, hm, hR⟩, ⟨o, hl⟩, ⟨od, hd⟩, hn155, hbp⟩ := hI
  have hB := hSB.1
  have hc8 := hSB.2.1
  have hK9 : 30500 * t + 30500 < 16000000 := by omega
  obtain ⟨h0, ⟨J, B, hst, hS⟩, -, -, -, ⟨T1, hk1⟩, ⟨T4, hk4⟩, -, ⟨Lc, hcd, hcl, hcx⟩, hox, hbx⟩ := id hW
  have hcm : (opCatch s.1 (gX G ((3 * t) + 1))).1 ≤ 3 := Nat.le_trans (m := 2) (by unfold opCatch; (repeat' split) <;> exact Nat.le_of_ble_eq_true rfl) (by decide)
  refine aw_aload_n dL_law_368 rfl rfl ?_
  refine aw_aload_n dL_law_369 rfl rfl ?_
  refine aw_iload dL_law_370 rfl ?_
  refine aw_iconst_n 1 dL_law_372 (by decide) ?_
  refine aw_iadd_n dL_law_373 ?_
  refine aw_sald (sc_in (by omega) hG9) dL_law_374 ?_
  rw [nIc (by omega)]
  refine aw_aload_n dL_law_375 rfl rfl ?_
  refine aw_sW (as := [Value.ref 31, Value.int (gX G ((3 * t) + 1)), Value.ref 153]) (rest := []) mW_L_catchPendulum (w_catchPendulum (l := l) (G := G) hW hSB hK9 (by omega) (by omega) (by omega) hl (gX G ((3 * t) + 1))) ml_L_162 dL_law_376 rfl rfl (by decide) (Nat.le_of_ble_eq_true rfl) ⟨by omega, by omega⟩ (fun _ _ _ h => by cases h.1) (fun r1 f1 n1 hn1 h => ?_)
  obtain ⟨g1, -, bp1, o1, hb1, hG, hu1, hv1, hF⟩ := h
  cases g1
  have hm1 := hm.fr (f := f1) (fun a _ _ => hF a (by omega) (by omega) (by omega) (by omega))
  have hoth := hF 154 (by omega) (by omega) (by omega) (by omega)
  refine aw_istore (L' := [(6, .int (nI ((opCatch s.1 (gX G ((3 * t) + 1))).1))), (5, .int (nI (3 * t))), (4, .ref 154), (3, .ref 153), (2, .ref 144), (1, .ref 31), (0, .ref 0)]) dL_law_379 (Nat.le_of_ble_eq_true rfl) rfl ?_
  refine aw_aload_n dL_law_381 rfl rfl ?_
  refine aw_aload_n dL_law_382 rfl rfl ?_
  refine aw_iload dL_law_383 rfl ?_
  refine aw_iconst_n 1 dL_law_385 (by decide) ?_
  refine aw_iadd_n dL_law_386 ?_
  refine aw_sald (sc_in (by omega) hG9) dL_law_387 ?_
  rw [nIc (by omega)]
  have hq_m := mo_catchPendulum (l := l) (G := G) (n := n1) (f := f1) (o := 144) (I := I) (A := A) hR hB hc8 (gX G ((3 * t) + 1))
  rw [hm1.self] at hq_m
  refine aw_cP (as := [Value.int (gX G ((3 * t) + 1))]) (rest := []) (MV.c mV_X11_catchPendulum) hq_m ml_L_164 (RC.w hm1.obj rfl) dL_law_388 rfl rfl (by decide) (Nat.le_of_ble_eq_true rfl) ⟨by omega, by omega⟩ (fun _ _ _ h => by cases h.1) (fun r2 f2 n2 hn2 h => ?_)
  obtain ⟨g1, g2, I2, A2, hf2, hR2, h12⟩ := h
  cases g1
  have g2 := g2.symm
  subst g2
  have hm2 : mAt f2 144 I2 A2 := by rw [hf2]; exact mAt.new
  have hE2 : ∀ a, (a < 144 ∨ 153 ≤ a) → f2 a = f1 a := fun a h => by rw [hf2]; exact rU_out (by omega)
  have hG2 := hG.fr (f := f2) (fun a _ _ => hE2 a (by omega)) (hE2 bp1 (by omega)) (Nat.le_refl _)
  refine aw_istore (L' := [(7, .int (nI (opCatch s.1 (gX G ((3 * t) + 1))).2.1)), (6, .int (nI ((opCatch s.1 (gX G ((3 * t) + 1))).1))), (5, .int (nI (3 * t))), (4, .ref 154), (3, .ref 153), (2, .ref 144), (1, .ref 31), (0, .ref 0)]) dL_law_391 (Nat.le_of_ble_eq_true rfl) rfl ?_
  refine aw_aload_n dL_law_393 rfl rfl ?_
  have hq_t := m_thrown (l := l) (G := G) (n := n1) (f := f2) (o := 144) (A := A2) h12
  rw [hm2.self] at hq_t
  refine aw_cI (as := []) (rest := []) (MV.c mV_X11_thrown) hq_t ml_L_155 (RC.w hm2.obj rfl) dL_law_394 rfl rfl (by decide) (Nat.le_of_ble_eq_true rfl) ⟨by omega, by omega⟩ ?_
  refine aw_iload dL_law_397 rfl ?_
  refine aw_icmp_eq (tgt := 404) dL_law_399 (by decide) (fun c_1 => ?_) (fun c_1 => by exfalso; exact c_1 rfl)
  refine aw_iload dL_law_404 rfl ?_
  refine aw_if_ne (tgt := 421) dL_law_406 (by decide) (fun c_2 => ?_) (fun c_2 => ?_)
  · refine aw_goto (tgt := 2549) dL_law_421 (by decide) ?_
    refine aw_sub [(5, .int (nI (3 * t))), (4, .ref 154), (3, .ref 153), (2, .ref 144), (1, .ref 31), (0, .ref 0)] (by simp) ?_
    exact hgo f2 bp1 n1 (opS s (opCatch s.1 (gX G ((3 * t) + 1)))) _ _ ⟨hG2, ⟨I2, A2, hm2, hR2⟩, ⟨o1, (hE2 153 (by omega)).trans hu1⟩, ⟨od, (hE2 154 (by omega)).trans (hoth.trans hd)⟩, by omega, by omega⟩ (by rw [show 30500 * (t + 1) = 30500 * t + 30500 by omega]; exact hSB.chg hK9 (vq_catch hB (by omega) (gX G ((3 * t) + 1)))) (by omega) (by omega)
  · have hc0 := nI_0c hcm c_2
    refine aw_aload_n dL_law_409 rfl rfl ?_
    refine aw_iconst_n 0 dL_law_410 (by decide) ?_
    refine aw_lald ((hE2 153 (by omega)).trans hu1) (vp_in_nI (by decide) (by decide)) dL_law_411 ?_
    rw [nIc (by decide), hv1 hc0]
    refine aw_iload dL_law_412 rfl ?_
    refine aw_i2l dL_law_414 ?_
    refine aw_lcmp dL_law_415 ?_
    refine aw_if_eq (tgt := 421) dL_law_416 (by decide) (fun c_3 => ?_) (fun c_3 => by exfalso; exact c_3 (lcmp_same _))
    refine aw_goto (tgt := 2549) dL_law_421 (by decide) ?_
    refine aw_sub [(5, .int (nI (3 * t))), (4, .ref 154), (3, .ref 153), (2, .ref 144), (1, .ref 31), (0, .ref 0)] (by simp) ?_
    exact hgo f2 bp1 n1 (opS s (opCatch s.1 (gX G ((3 * t) + 1)))) _ _ ⟨hG2, ⟨I2, A2, hm2, hR2⟩, ⟨o1, (hE2 153 (by omega)).trans hu1⟩, ⟨od, (hE2 154 (by omega)).trans (hoth.trans hd)⟩, by omega, by omega⟩ (by rw [show 30500 * (t + 1) = 30500 * t + 30500 by omega]; exact hSB.chg hK9 (vq_catch hB (by omega) (gX G ((3 * t) + 1)))) (by omega) (by omega)
set_option maxHeartbeats 4000000 in
theorem lc_3 {l : Launch} {G : GT} {n0 t : Nat} {hh : List ExceptionTableEntry} {nm : String} (hG9 : gN G ≤ 1536) (ht : 3 * t + 2 < gN G) (ht9 : t < 512) (hgo : LGo l G n0 t hh nm) : LCase l G n0 t hh nm 424 := by
  intro f bp n s nc ns hI hSB hnc hns
  obtain ⟨hW, ⟨I, A, hm, hR⟩, ⟨o, hl⟩, ⟨od, hd⟩, hn155, hbp⟩ := hI
  have hB := hSB.1
  have hc8 := hSB.2.1
  have hK9 : 30500 * t + 30500 < 16000000 := by omega
  obtain ⟨h0, ⟨J, B, hst, hS⟩, -, -, -, ⟨T1, hk1⟩, ⟨T4, hk4⟩, -, ⟨Lc, hcd, hcl, hcx⟩, hox, hbx⟩ := id hW
  have hcm : (opFric s.1 (gX G ((3 * t) + 1))).1 ≤ 3 := Nat.le_trans (m := 1) (by unfold opFric; (repeat' split) <;> exact Nat.le_of_ble_eq_true rfl) (by decide)
  refine aw_aload_n dL_law_424 rfl rfl ?_
  refine aw_aload_n dL_law_425 rfl rfl ?_
  refine aw_iload dL_law_426 rfl ?_
  refine aw_iconst_n 1 dL_law_428 (by decide) ?_
  refine aw_iadd_n dL_law_429 ?_
  refine aw_sald (sc_in (by omega) hG9) dL_law_430 ?_
  rw [nIc (by omega)]
  refine aw_aload_n dL_law_431 rfl rfl ?_
  refine aw_sW (as := [Value.ref 31, Value.int (gX G ((3 * t) + 1)), Value.ref 153]) (rest := []) mW_L_setFriction (w_setFriction (l := l) (G := G) hW hSB hK9 (by omega) (by omega) (by omega) hl (gX G ((3 * t) + 1))) ml_L_165 dL_law_432 rfl rfl (by decide) (Nat.le_of_ble_eq_true rfl) ⟨by omega, by omega⟩ (fun _ _ _ h => by cases h.1) (fun r1 f1 n1 hn1 h => ?_)
  obtain ⟨g1, -, bp1, o1, hb1, hG, hu1, hv1, hF⟩ := h
  cases g1
  have hm1 := hm.fr (f := f1) (fun a _ _ => hF a (by omega) (by omega) (by omega) (by omega))
  have hoth := hF 154 (by omega) (by omega) (by omega) (by omega)
  refine aw_istore (L' := [(6, .int (nI ((opFric s.1 (gX G ((3 * t) + 1))).1))), (5, .int (nI (3 * t))), (4, .ref 154), (3, .ref 153), (2, .ref 144), (1, .ref 31), (0, .ref 0)]) dL_law_435 (Nat.le_of_ble_eq_true rfl) rfl ?_
  refine aw_aload_n dL_law_437 rfl rfl ?_
  refine aw_aload_n dL_law_438 rfl rfl ?_
  refine aw_iload dL_law_439 rfl ?_
  refine aw_iconst_n 1 dL_law_441 (by decide) ?_
  refine aw_iadd_n dL_law_442 ?_
  refine aw_sald (sc_in (by omega) hG9) dL_law_443 ?_
  rw [nIc (by omega)]
  have hq_m := mo_setFriction (l := l) (G := G) (n := n1) (f := f1) (o := 144) (I := I) (A := A) hR hB hc8 (gX G ((3 * t) + 1))
  rw [hm1.self] at hq_m
  refine aw_cP (as := [Value.int (gX G ((3 * t) + 1))]) (rest := []) (MV.c mV_X11_setFriction) hq_m ml_L_167 (RC.w hm1.obj rfl) dL_law_444 rfl rfl (by decide) (Nat.le_of_ble_eq_true rfl) ⟨by omega, by omega⟩ (fun _ _ _ h => by cases h.1) (fun r2 f2 n2 hn2 h => ?_)
  obtain ⟨g1, g2, I2, A2, hf2, hR2, h12⟩ := h
  cases g1
  have g2 := g2.symm
  subst g2
  have hm2 : mAt f2 144 I2 A2 := by rw [hf2]; exact mAt.new
  have hE2 : ∀ a, (a < 144 ∨ 153 ≤ a) → f2 a = f1 a := fun a h => by rw [hf2]; exact rU_out (by omega)
  have hG2 := hG.fr (f := f2) (fun a _ _ => hE2 a (by omega)) (hE2 bp1 (by omega)) (Nat.le_refl _)
  refine aw_istore (L' := [(7, .int (nI (opFric s.1 (gX G ((3 * t) + 1))).2.1)), (6, .int (nI ((opFric s.1 (gX G ((3 * t) + 1))).1))), (5, .int (nI (3 * t))), (4, .ref 154), (3, .ref 153), (2, .ref 144), (1, .ref 31), (0, .ref 0)]) dL_law_447 (Nat.le_of_ble_eq_true rfl) rfl ?_
  refine aw_aload_n dL_law_449 rfl rfl ?_
  have hq_t := m_thrown (l := l) (G := G) (n := n1) (f := f2) (o := 144) (A := A2) h12
  rw [hm2.self] at hq_t
  refine aw_cI (as := []) (rest := []) (MV.c mV_X11_thrown) hq_t ml_L_155 (RC.w hm2.obj rfl) dL_law_450 rfl rfl (by decide) (Nat.le_of_ble_eq_true rfl) ⟨by omega, by omega⟩ ?_
  refine aw_iload dL_law_453 rfl ?_
  refine aw_icmp_eq (tgt := 460) dL_law_455 (by decide) (fun c_1 => ?_) (fun c_1 => by exfalso; exact c_1 rfl)
  refine aw_iload dL_law_460 rfl ?_
  refine aw_if_ne (tgt := 477) dL_law_462 (by decide) (fun c_2 => ?_) (fun c_2 => ?_)
  · refine aw_goto (tgt := 2549) dL_law_477 (by decide) ?_
    refine aw_sub [(5, .int (nI (3 * t))), (4, .ref 154), (3, .ref 153), (2, .ref 144), (1, .ref 31), (0, .ref 0)] (by simp) ?_
    exact hgo f2 bp1 n1 (opS s (opFric s.1 (gX G ((3 * t) + 1)))) _ _ ⟨hG2, ⟨I2, A2, hm2, hR2⟩, ⟨o1, (hE2 153 (by omega)).trans hu1⟩, ⟨od, (hE2 154 (by omega)).trans (hoth.trans hd)⟩, by omega, by omega⟩ (by rw [show 30500 * (t + 1) = 30500 * t + 30500 by omega]; exact hSB.chg hK9 (vq_fric hB (by omega) (gX G ((3 * t) + 1)))) (by omega) (by omega)
  · have hc0 := nI_0c hcm c_2
    refine aw_aload_n dL_law_465 rfl rfl ?_
    refine aw_iconst_n 0 dL_law_466 (by decide) ?_
    refine aw_lald ((hE2 153 (by omega)).trans hu1) (vp_in_nI (by decide) (by decide)) dL_law_467 ?_
    rw [nIc (by decide), hv1 hc0]
    refine aw_iload dL_law_468 rfl ?_
    refine aw_i2l dL_law_470 ?_
    refine aw_lcmp dL_law_471 ?_
    refine aw_if_eq (tgt := 477) dL_law_472 (by decide) (fun c_3 => ?_) (fun c_3 => by exfalso; exact c_3 (lcmp_same _))
    refine aw_goto (tgt := 2549) dL_law_477 (by decide) ?_
    refine aw_sub [(5, .int (nI (3 * t))), (4, .ref 154), (3, .ref 153), (2, .ref 144), (1, .ref 31), (0, .ref 0)] (by simp) ?_
    exact hgo f2 bp1 n1 (opS s (opFric s.1 (gX G ((3 * t) + 1)))) _ _ ⟨hG2, ⟨I2, A2, hm2, hR2⟩, ⟨o1, (hE2 153 (by omega)).trans hu1⟩, ⟨od, (hE2 154 (by omega)).trans (hoth.trans hd)⟩, by omega, by omega⟩ (by rw [show 30500 * (t + 1) = 30500 * t + 30500 by omega]; exact hSB.chg hK9 (vq_fric hB (by omega) (gX G ((3 * t) + 1)))) (by omega) (by omega)
set_option maxHeartbeats 4000000 in
theorem lc_4 {l : Launch} {G : GT} {n0 t : Nat} {hh : List ExceptionTableEntry} {nm : String} (hG9 : gN G ≤ 1536) (ht : 3 * t + 2 < gN G) (ht9 : t < 512) (hgo : LGo l G n0 t hh nm) : LCase l G n0 t hh nm 480 := by
  intro f bp n s nc ns hI hSB hnc hns
  obtain ⟨hW, ⟨I, A, hm, hR⟩, ⟨o, hl⟩, ⟨od, hd⟩, hn155, hbp⟩ := hI
  have hB := hSB.1
  have hc8 := hSB.2.1
  have hK9 : 30500 * t + 30500 < 16000000 := by omega
  obtain ⟨h0, ⟨J, B, hst, hS⟩, -, -, -, ⟨T1, hk1⟩, ⟨T4, hk4⟩, -, ⟨Lc, hcd, hcl, hcx⟩, hox, hbx⟩ := id hW
  have hcm : (opPass s.1 (gX G ((3 * t) + 1))).1 ≤ 3 := Nat.le_trans (m := 1) (by unfold opPass; (repeat' split) <;> exact Nat.le_of_ble_eq_true rfl) (by decide)
  refine aw_aload_n dL_law_480 rfl rfl ?_
  refine aw_aload_n dL_law_481 rfl rfl ?_
  refine aw_iload dL_law_482 rfl ?_
  refine aw_iconst_n 1 dL_law_484 (by decide) ?_
  refine aw_iadd_n dL_law_485 ?_
  refine aw_sald (sc_in (by omega) hG9) dL_law_486 ?_
  rw [nIc (by omega)]
  refine aw_aload_n dL_law_487 rfl rfl ?_
  refine aw_sW (as := [Value.ref 31, Value.int (gX G ((3 * t) + 1)), Value.ref 153]) (rest := []) mW_L_pass (w_pass (l := l) (G := G) hW hSB hK9 (by omega) (by omega) (by omega) hl (gX G ((3 * t) + 1))) ml_L_168 dL_law_488 rfl rfl (by decide) (Nat.le_of_ble_eq_true rfl) ⟨by omega, by omega⟩ (fun _ _ _ h => by cases h.1) (fun r1 f1 n1 hn1 h => ?_)
  obtain ⟨g1, -, bp1, o1, hb1, hG, hu1, hv1, hF⟩ := h
  cases g1
  have hm1 := hm.fr (f := f1) (fun a _ _ => hF a (by omega) (by omega) (by omega) (by omega))
  have hoth := hF 154 (by omega) (by omega) (by omega) (by omega)
  refine aw_istore (L' := [(6, .int (nI ((opPass s.1 (gX G ((3 * t) + 1))).1))), (5, .int (nI (3 * t))), (4, .ref 154), (3, .ref 153), (2, .ref 144), (1, .ref 31), (0, .ref 0)]) dL_law_491 (Nat.le_of_ble_eq_true rfl) rfl ?_
  refine aw_aload_n dL_law_493 rfl rfl ?_
  refine aw_aload_n dL_law_494 rfl rfl ?_
  refine aw_iload dL_law_495 rfl ?_
  refine aw_iconst_n 1 dL_law_497 (by decide) ?_
  refine aw_iadd_n dL_law_498 ?_
  refine aw_sald (sc_in (by omega) hG9) dL_law_499 ?_
  rw [nIc (by omega)]
  have hq_m := mo_pass (l := l) (G := G) (n := n1) (f := f1) (o := 144) (I := I) (A := A) hR hB hc8 (by omega) (gX G ((3 * t) + 1))
  rw [hm1.self] at hq_m
  refine aw_cP (as := [Value.int (gX G ((3 * t) + 1))]) (rest := []) (MV.c mV_X11_pass) hq_m ml_L_170 (RC.w hm1.obj rfl) dL_law_500 rfl rfl (by decide) (Nat.le_of_ble_eq_true rfl) ⟨by omega, by omega⟩ (fun _ _ _ h => by cases h.1) (fun r2 f2 n2 hn2 h => ?_)
  obtain ⟨g1, g2, I2, A2, hf2, hR2, h12⟩ := h
  cases g1
  have g2 := g2.symm
  subst g2
  have hm2 : mAt f2 144 I2 A2 := by rw [hf2]; exact mAt.new
  have hE2 : ∀ a, (a < 144 ∨ 153 ≤ a) → f2 a = f1 a := fun a h => by rw [hf2]; exact rU_out (by omega)
  have hG2 := hG.fr (f := f2) (fun a _ _ => hE2 a (by omega)) (hE2 bp1 (by omega)) (Nat.le_refl _)
  refine aw_istore (L' := [(7, .int (nI (opPass s.1 (gX G ((3 * t) + 1))).2.1)), (6, .int (nI ((opPass s.1 (gX G ((3 * t) + 1))).1))), (5, .int (nI (3 * t))), (4, .ref 154), (3, .ref 153), (2, .ref 144), (1, .ref 31), (0, .ref 0)]) dL_law_503 (Nat.le_of_ble_eq_true rfl) rfl ?_
  refine aw_aload_n dL_law_505 rfl rfl ?_
  have hq_t := m_thrown (l := l) (G := G) (n := n1) (f := f2) (o := 144) (A := A2) h12
  rw [hm2.self] at hq_t
  refine aw_cI (as := []) (rest := []) (MV.c mV_X11_thrown) hq_t ml_L_155 (RC.w hm2.obj rfl) dL_law_506 rfl rfl (by decide) (Nat.le_of_ble_eq_true rfl) ⟨by omega, by omega⟩ ?_
  refine aw_iload dL_law_509 rfl ?_
  refine aw_icmp_eq (tgt := 516) dL_law_511 (by decide) (fun c_1 => ?_) (fun c_1 => by exfalso; exact c_1 rfl)
  refine aw_iload dL_law_516 rfl ?_
  refine aw_if_ne (tgt := 533) dL_law_518 (by decide) (fun c_2 => ?_) (fun c_2 => ?_)
  · refine aw_goto (tgt := 2549) dL_law_533 (by decide) ?_
    refine aw_sub [(5, .int (nI (3 * t))), (4, .ref 154), (3, .ref 153), (2, .ref 144), (1, .ref 31), (0, .ref 0)] (by simp) ?_
    exact hgo f2 bp1 n1 (opS s (opPass s.1 (gX G ((3 * t) + 1)))) _ _ ⟨hG2, ⟨I2, A2, hm2, hR2⟩, ⟨o1, (hE2 153 (by omega)).trans hu1⟩, ⟨od, (hE2 154 (by omega)).trans (hoth.trans hd)⟩, by omega, by omega⟩ (by rw [show 30500 * (t + 1) = 30500 * t + 30500 by omega]; exact hSB.chg hK9 (vq_pass hB (by omega) (gX G ((3 * t) + 1)))) (by omega) (by omega)
  · have hc0 := nI_0c hcm c_2
    refine aw_aload_n dL_law_521 rfl rfl ?_
    refine aw_iconst_n 0 dL_law_522 (by decide) ?_
    refine aw_lald ((hE2 153 (by omega)).trans hu1) (vp_in_nI (by decide) (by decide)) dL_law_523 ?_
    rw [nIc (by decide), hv1 hc0]
    refine aw_iload dL_law_524 rfl ?_
    refine aw_i2l dL_law_526 ?_
    refine aw_lcmp dL_law_527 ?_
    refine aw_if_eq (tgt := 533) dL_law_528 (by decide) (fun c_3 => ?_) (fun c_3 => by exfalso; exact c_3 (lcmp_same _))
    refine aw_goto (tgt := 2549) dL_law_533 (by decide) ?_
    refine aw_sub [(5, .int (nI (3 * t))), (4, .ref 154), (3, .ref 153), (2, .ref 144), (1, .ref 31), (0, .ref 0)] (by simp) ?_
    exact hgo f2 bp1 n1 (opS s (opPass s.1 (gX G ((3 * t) + 1)))) _ _ ⟨hG2, ⟨I2, A2, hm2, hR2⟩, ⟨o1, (hE2 153 (by omega)).trans hu1⟩, ⟨od, (hE2 154 (by omega)).trans (hoth.trans hd)⟩, by omega, by omega⟩ (by rw [show 30500 * (t + 1) = 30500 * t + 30500 by omega]; exact hSB.chg hK9 (vq_pass hB (by omega) (gX G ((3 * t) + 1)))) (by omega) (by omega)
set_option maxHeartbeats 4000000 in
theorem lc_5 {l : Launch} {G : GT} {n0 t : Nat} {hh : List ExceptionTableEntry} {nm : String} (hG9 : gN G ≤ 1536) (ht : 3 * t + 2 < gN G) (ht9 : t < 512) (hgo : LGo l G n0 t hh nm) : LCase l G n0 t hh nm 536 := by
  intro f bp n s nc ns hI hSB hnc hns
  obtain ⟨hW, ⟨I, A, hm, hR⟩, ⟨o, hl⟩, ⟨od, hd⟩, hn155, hbp⟩ := hI
  have hB := hSB.1
  have hc8 := hSB.2.1
  have hK9 : 30500 * t + 30500 < 16000000 := by omega
  obtain ⟨h0, ⟨J, B, hst, hS⟩, -, -, -, ⟨T1, hk1⟩, ⟨T4, hk4⟩, -, ⟨Lc, hcd, hcl, hcx⟩, hox, hbx⟩ := id hW
  skip
  refine aw_aload_n dL_law_536 rfl rfl ?_
  have hq_g := HQ.gx (es := []) (c := 0) hW (g_pendulumCount (l := l) (G := G) (n := n) h0 hst hS hB)
  refine aw_cP (as := []) (rest := []) (MV.c mV_X10_pendulumCount) hq_g ml_L_171 (RC.w h0 rfl) dL_law_537 rfl rfl (by decide) (Nat.le_of_ble_eq_true rfl) ⟨by omega, by omega⟩ (fun _ _ _ h => by obtain ⟨h9, -⟩ := h; exact absurd rfl (xA_inr h9).1) (fun r1 f1 n1 hn1 h => ?_)
  obtain ⟨g1, -, bp1, hb1, hG, hF⟩ := h
  obtain ⟨-, g1⟩ := xA_inl g1
  subst g1
  have hm1 := hm.fr (f := f1) (fun a _ _ => hF a (by omega) (by omega) (by omega))
  have ho3 := hF 153 (by omega) (by omega) (by omega)
  have ho4 := hF 154 (by omega) (by omega) (by omega)
  refine aw_aload_n dL_law_540 rfl rfl ?_
  have hq_m := m_pendulumCount (l := l) (G := G) (n := n1) (f := f1) (o := 144) (I := I) (A := A) hR.1 hB
  rw [hm1.self] at hq_m
  refine aw_cP (as := []) (rest := [Value.int (nI (s.1 2))]) (MV.c mV_X11_pendulumCount) (RQ.pg (q := (0, s.1 2)) hR hq_m) ml_L_174 (RC.w hm1.obj rfl) dL_law_541 rfl rfl (by decide) (Nat.le_of_ble_eq_true rfl) ⟨by omega, by omega⟩ (fun _ _ _ h => by cases h.1) (fun r2 f2 n2 hn2 h => ?_)
  obtain ⟨g1, g2, I2, A2, hf2, hR2, h12⟩ := h
  cases g1
  have g2 := g2.symm
  subst g2
  have hm2 : mAt f2 144 I2 A2 := by rw [hf2]; exact mAt.new
  have hE2 : ∀ a, (a < 144 ∨ 153 ≤ a) → f2 a = f1 a := fun a h => by rw [hf2]; exact rU_out (by omega)
  have hG2 := hG.fr (f := f2) (fun a _ _ => hE2 a (by omega)) (hE2 bp1 (by omega)) (Nat.le_refl _)
  refine aw_icmp_eq (tgt := 2549) dL_law_544 (by decide) (fun c_1 => ?_) (fun c_1 => by exfalso; exact c_1 rfl)
  refine aw_sub [(5, .int (nI (3 * t))), (4, .ref 154), (3, .ref 153), (2, .ref 144), (1, .ref 31), (0, .ref 0)] (by simp) ?_
  exact hgo f2 bp1 n1 (s) _ _ ⟨hG2, ⟨I2, A2, hm2, hR2⟩, ⟨o, (hE2 153 (by omega)).trans (ho3.trans hl)⟩, ⟨od, (hE2 154 (by omega)).trans (ho4.trans hd)⟩, by omega, by omega⟩ (hSB.mono (by omega) (by omega)) (by omega) (by omega)
set_option maxHeartbeats 4000000 in
theorem lc_6 {l : Launch} {G : GT} {n0 t : Nat} {hh : List ExceptionTableEntry} {nm : String} (hG9 : gN G ≤ 1536) (ht : 3 * t + 2 < gN G) (ht9 : t < 512) (hgo : LGo l G n0 t hh nm) : LCase l G n0 t hh nm 549 := by
  intro f bp n s nc ns hI hSB hnc hns
  obtain ⟨hW, ⟨I, A, hm, hR⟩, ⟨o, hl⟩, ⟨od, hd⟩, hn155, hbp⟩ := hI
  have hB := hSB.1
  have hc8 := hSB.2.1
  have hK9 : 30500 * t + 30500 < 16000000 := by omega
  obtain ⟨h0, ⟨J, B, hst, hS⟩, -, -, -, ⟨T1, hk1⟩, ⟨T4, hk4⟩, -, ⟨Lc, hcd, hcl, hcx⟩, hox, hbx⟩ := id hW
  have hcm : (qNum s.1 4 (gX G ((3 * t) + 1))).1 ≤ 3 := Nat.le_trans (m := 1) (by unfold qNum; (repeat' split) <;> exact Nat.le_of_ble_eq_true rfl) (by decide)
  refine aw_aload_n dL_law_549 rfl rfl ?_
  refine aw_aload_n dL_law_550 rfl rfl ?_
  refine aw_iload dL_law_551 rfl ?_
  refine aw_iconst_n 1 dL_law_553 (by decide) ?_
  refine aw_iadd_n dL_law_554 ?_
  refine aw_sald (sc_in (by omega) hG9) dL_law_555 ?_
  rw [nIc (by omega)]
  refine aw_aload_n dL_law_556 rfl rfl ?_
  refine aw_sW (as := [Value.ref 31, Value.int (gX G ((3 * t) + 1)), Value.ref 153]) (rest := []) mW_L_lengthOf (w_lengthOf (l := l) (G := G) hW hSB hK9 (by omega) (by omega) (by omega) hl (gX G ((3 * t) + 1))) ml_L_175 dL_law_557 rfl rfl (by decide) (Nat.le_of_ble_eq_true rfl) ⟨by omega, by omega⟩ (fun _ _ _ h => by cases h.1) (fun r1 f1 n1 hn1 h => ?_)
  obtain ⟨g1, -, bp1, o1, hb1, hG, hu1, hv1, hF⟩ := h
  cases g1
  have hm1 := hm.fr (f := f1) (fun a _ _ => hF a (by omega) (by omega) (by omega) (by omega))
  have hoth := hF 154 (by omega) (by omega) (by omega) (by omega)
  refine aw_istore (L' := [(6, .int (nI ((qNum s.1 4 (gX G ((3 * t) + 1))).1))), (5, .int (nI (3 * t))), (4, .ref 154), (3, .ref 153), (2, .ref 144), (1, .ref 31), (0, .ref 0)]) dL_law_560 (Nat.le_of_ble_eq_true rfl) rfl ?_
  refine aw_aload_n dL_law_562 rfl rfl ?_
  refine aw_aload_n dL_law_563 rfl rfl ?_
  refine aw_iload dL_law_564 rfl ?_
  refine aw_iconst_n 1 dL_law_566 (by decide) ?_
  refine aw_iadd_n dL_law_567 ?_
  refine aw_sald (sc_in (by omega) hG9) dL_law_568 ?_
  rw [nIc (by omega)]
  have hq_m := m_lengthOf (l := l) (G := G) (n := n1) (f := f1) (o := 144) (I := I) (A := A) hR.1 hB (gX G ((3 * t) + 1))
  rw [hm1.self] at hq_m
  refine aw_cP (as := [Value.int (gX G ((3 * t) + 1))]) (rest := []) (MV.c mV_X11_lengthOf) (RQ.pg hR hq_m) ml_L_177 (RC.w hm1.obj rfl) dL_law_569 rfl rfl (by decide) (Nat.le_of_ble_eq_true rfl) ⟨by omega, by omega⟩ (fun _ _ _ h => by cases h.1) (fun r2 f2 n2 hn2 h => ?_)
  obtain ⟨g1, g2, I2, A2, hf2, hR2, h12⟩ := h
  cases g1
  have g2 := g2.symm
  subst g2
  have hm2 : mAt f2 144 I2 A2 := by rw [hf2]; exact mAt.new
  have hE2 : ∀ a, (a < 144 ∨ 153 ≤ a) → f2 a = f1 a := fun a h => by rw [hf2]; exact rU_out (by omega)
  have hG2 := hG.fr (f := f2) (fun a _ _ => hE2 a (by omega)) (hE2 bp1 (by omega)) (Nat.le_refl _)
  refine aw_istore (L' := [(7, .int (nI (qNum s.1 4 (gX G ((3 * t) + 1))).2)), (6, .int (nI ((qNum s.1 4 (gX G ((3 * t) + 1))).1))), (5, .int (nI (3 * t))), (4, .ref 154), (3, .ref 153), (2, .ref 144), (1, .ref 31), (0, .ref 0)]) dL_law_572 (Nat.le_of_ble_eq_true rfl) rfl ?_
  refine aw_aload_n dL_law_574 rfl rfl ?_
  have hq_t := m_thrown (l := l) (G := G) (n := n1) (f := f2) (o := 144) (A := A2) h12
  rw [hm2.self] at hq_t
  refine aw_cI (as := []) (rest := []) (MV.c mV_X11_thrown) hq_t ml_L_155 (RC.w hm2.obj rfl) dL_law_575 rfl rfl (by decide) (Nat.le_of_ble_eq_true rfl) ⟨by omega, by omega⟩ ?_
  refine aw_iload dL_law_578 rfl ?_
  refine aw_icmp_eq (tgt := 585) dL_law_580 (by decide) (fun c_1 => ?_) (fun c_1 => by exfalso; exact c_1 rfl)
  refine aw_iload dL_law_585 rfl ?_
  refine aw_if_ne (tgt := 602) dL_law_587 (by decide) (fun c_2 => ?_) (fun c_2 => ?_)
  · refine aw_goto (tgt := 2549) dL_law_602 (by decide) ?_
    refine aw_sub [(5, .int (nI (3 * t))), (4, .ref 154), (3, .ref 153), (2, .ref 144), (1, .ref 31), (0, .ref 0)] (by simp) ?_
    exact hgo f2 bp1 n1 (s) _ _ ⟨hG2, ⟨I2, A2, hm2, hR2⟩, ⟨o1, (hE2 153 (by omega)).trans hu1⟩, ⟨od, (hE2 154 (by omega)).trans (hoth.trans hd)⟩, by omega, by omega⟩ (hSB.mono (by omega) (by omega)) (by omega) (by omega)
  · have hc0 := nI_0c hcm c_2
    refine aw_aload_n dL_law_590 rfl rfl ?_
    refine aw_iconst_n 0 dL_law_591 (by decide) ?_
    refine aw_lald ((hE2 153 (by omega)).trans hu1) (vp_in_nI (by decide) (by decide)) dL_law_592 ?_
    rw [nIc (by decide), hv1 hc0]
    refine aw_iload dL_law_593 rfl ?_
    refine aw_i2l dL_law_595 ?_
    refine aw_lcmp dL_law_596 ?_
    refine aw_if_eq (tgt := 602) dL_law_597 (by decide) (fun c_3 => ?_) (fun c_3 => by exfalso; exact c_3 (lcmp_same _))
    refine aw_goto (tgt := 2549) dL_law_602 (by decide) ?_
    refine aw_sub [(5, .int (nI (3 * t))), (4, .ref 154), (3, .ref 153), (2, .ref 144), (1, .ref 31), (0, .ref 0)] (by simp) ?_
    exact hgo f2 bp1 n1 (s) _ _ ⟨hG2, ⟨I2, A2, hm2, hR2⟩, ⟨o1, (hE2 153 (by omega)).trans hu1⟩, ⟨od, (hE2 154 (by omega)).trans (hoth.trans hd)⟩, by omega, by omega⟩ (hSB.mono (by omega) (by omega)) (by omega) (by omega)
set_option maxHeartbeats 4000000 in
theorem lc_7 {l : Launch} {G : GT} {n0 t : Nat} {hh : List ExceptionTableEntry} {nm : String} (hG9 : gN G ≤ 1536) (ht : 3 * t + 2 < gN G) (ht9 : t < 512) (hgo : LGo l G n0 t hh nm) : LCase l G n0 t hh nm 605 := by
  intro f bp n s nc ns hI hSB hnc hns
  obtain ⟨hW, ⟨I, A, hm, hR⟩, ⟨o, hl⟩, ⟨od, hd⟩, hn155, hbp⟩ := hI
  have hB := hSB.1
  have hc8 := hSB.2.1
  have hK9 : 30500 * t + 30500 < 16000000 := by omega
  obtain ⟨h0, ⟨J, B, hst, hS⟩, -, -, -, ⟨T1, hk1⟩, ⟨T4, hk4⟩, -, ⟨Lc, hcd, hcl, hcx⟩, hox, hbx⟩ := id hW
  have hcm : (qClass s.1 (gX G ((3 * t) + 1))).1 ≤ 3 := Nat.le_trans (m := 1) (by unfold qClass; (repeat' split) <;> exact Nat.le_of_ble_eq_true rfl) (by decide)
  refine aw_aload_n dL_law_605 rfl rfl ?_
  refine aw_aload_n dL_law_606 rfl rfl ?_
  refine aw_iload dL_law_607 rfl ?_
  refine aw_iconst_n 1 dL_law_609 (by decide) ?_
  refine aw_iadd_n dL_law_610 ?_
  refine aw_sald (sc_in (by omega) hG9) dL_law_611 ?_
  rw [nIc (by omega)]
  refine aw_aload_n dL_law_612 rfl rfl ?_
  refine aw_sW (as := [Value.ref 31, Value.int (gX G ((3 * t) + 1)), Value.ref 153]) (rest := []) mW_L_classOf (w_classOf (l := l) (G := G) hW hSB hK9 (by omega) (by omega) (by omega) hl (gX G ((3 * t) + 1))) ml_L_178 dL_law_613 rfl rfl (by decide) (Nat.le_of_ble_eq_true rfl) ⟨by omega, by omega⟩ (fun _ _ _ h => by cases h.1) (fun r1 f1 n1 hn1 h => ?_)
  obtain ⟨g1, -, bp1, o1, hb1, hG, hu1, hv1, hF⟩ := h
  cases g1
  have hm1 := hm.fr (f := f1) (fun a _ _ => hF a (by omega) (by omega) (by omega) (by omega))
  have hoth := hF 154 (by omega) (by omega) (by omega) (by omega)
  refine aw_istore (L' := [(6, .int (nI ((qClass s.1 (gX G ((3 * t) + 1))).1))), (5, .int (nI (3 * t))), (4, .ref 154), (3, .ref 153), (2, .ref 144), (1, .ref 31), (0, .ref 0)]) dL_law_616 (Nat.le_of_ble_eq_true rfl) rfl ?_
  refine aw_aload_n dL_law_618 rfl rfl ?_
  refine aw_aload_n dL_law_619 rfl rfl ?_
  refine aw_iload dL_law_620 rfl ?_
  refine aw_iconst_n 1 dL_law_622 (by decide) ?_
  refine aw_iadd_n dL_law_623 ?_
  refine aw_sald (sc_in (by omega) hG9) dL_law_624 ?_
  rw [nIc (by omega)]
  have hq_m := m_classOf (l := l) (G := G) (n := n1) (f := f1) (o := 144) (I := I) (A := A) hR.1 hB (gX G ((3 * t) + 1))
  rw [hm1.self] at hq_m
  refine aw_cP (as := [Value.int (gX G ((3 * t) + 1))]) (rest := []) (MV.c mV_X11_classOf) (RQ.pg hR hq_m) ml_L_180 (RC.w hm1.obj rfl) dL_law_625 rfl rfl (by decide) (Nat.le_of_ble_eq_true rfl) ⟨by omega, by omega⟩ (fun _ _ _ h => by cases h.1) (fun r2 f2 n2 hn2 h => ?_)
  obtain ⟨g1, g2, I2, A2, hf2, hR2, h12⟩ := h
  cases g1
  have g2 := g2.symm
  subst g2
  have hm2 : mAt f2 144 I2 A2 := by rw [hf2]; exact mAt.new
  have hE2 : ∀ a, (a < 144 ∨ 153 ≤ a) → f2 a = f1 a := fun a h => by rw [hf2]; exact rU_out (by omega)
  have hG2 := hG.fr (f := f2) (fun a _ _ => hE2 a (by omega)) (hE2 bp1 (by omega)) (Nat.le_refl _)
  refine aw_istore (L' := [(7, .int (nI (qClass s.1 (gX G ((3 * t) + 1))).2)), (6, .int (nI ((qClass s.1 (gX G ((3 * t) + 1))).1))), (5, .int (nI (3 * t))), (4, .ref 154), (3, .ref 153), (2, .ref 144), (1, .ref 31), (0, .ref 0)]) dL_law_628 (Nat.le_of_ble_eq_true rfl) rfl ?_
  refine aw_aload_n dL_law_630 rfl rfl ?_
  have hq_t := m_thrown (l := l) (G := G) (n := n1) (f := f2) (o := 144) (A := A2) h12
  rw [hm2.self] at hq_t
  refine aw_cI (as := []) (rest := []) (MV.c mV_X11_thrown) hq_t ml_L_155 (RC.w hm2.obj rfl) dL_law_631 rfl rfl (by decide) (Nat.le_of_ble_eq_true rfl) ⟨by omega, by omega⟩ ?_
  refine aw_iload dL_law_634 rfl ?_
  refine aw_icmp_eq (tgt := 641) dL_law_636 (by decide) (fun c_1 => ?_) (fun c_1 => by exfalso; exact c_1 rfl)
  refine aw_iload dL_law_641 rfl ?_
  refine aw_if_ne (tgt := 658) dL_law_643 (by decide) (fun c_2 => ?_) (fun c_2 => ?_)
  · refine aw_goto (tgt := 2549) dL_law_658 (by decide) ?_
    refine aw_sub [(5, .int (nI (3 * t))), (4, .ref 154), (3, .ref 153), (2, .ref 144), (1, .ref 31), (0, .ref 0)] (by simp) ?_
    exact hgo f2 bp1 n1 (s) _ _ ⟨hG2, ⟨I2, A2, hm2, hR2⟩, ⟨o1, (hE2 153 (by omega)).trans hu1⟩, ⟨od, (hE2 154 (by omega)).trans (hoth.trans hd)⟩, by omega, by omega⟩ (hSB.mono (by omega) (by omega)) (by omega) (by omega)
  · have hc0 := nI_0c hcm c_2
    refine aw_aload_n dL_law_646 rfl rfl ?_
    refine aw_iconst_n 0 dL_law_647 (by decide) ?_
    refine aw_lald ((hE2 153 (by omega)).trans hu1) (vp_in_nI (by decide) (by decide)) dL_law_648 ?_
    rw [nIc (by decide), hv1 hc0]
    refine aw_iload dL_law_649 rfl ?_
    refine aw_i2l dL_law_651 ?_
    refine aw_lcmp dL_law_652 ?_
    refine aw_if_eq (tgt := 658) dL_law_653 (by decide) (fun c_3 => ?_) (fun c_3 => by exfalso; exact c_3 (lcmp_same _))
    refine aw_goto (tgt := 2549) dL_law_658 (by decide) ?_
    refine aw_sub [(5, .int (nI (3 * t))), (4, .ref 154), (3, .ref 153), (2, .ref 144), (1, .ref 31), (0, .ref 0)] (by simp) ?_
    exact hgo f2 bp1 n1 (s) _ _ ⟨hG2, ⟨I2, A2, hm2, hR2⟩, ⟨o1, (hE2 153 (by omega)).trans hu1⟩, ⟨od, (hE2 154 (by omega)).trans (hoth.trans hd)⟩, by omega, by omega⟩ (hSB.mono (by omega) (by omega)) (by omega) (by omega)
set_option maxHeartbeats 4000000 in
theorem lc_8 {l : Launch} {G : GT} {n0 t : Nat} {hh : List ExceptionTableEntry} {nm : String} (hG9 : gN G ≤ 1536) (ht : 3 * t + 2 < gN G) (ht9 : t < 512) (hgo : LGo l G n0 t hh nm) : LCase l G n0 t hh nm 661 := by
  intro f bp n s nc ns hI hSB hnc hns
  obtain ⟨hW, ⟨I, A, hm, hR⟩, ⟨o, hl⟩, ⟨od, hd⟩, hn155, hbp⟩ := hI
  have hB := hSB.1
  have hc8 := hSB.2.1
  have hK9 : 30500 * t + 30500 < 16000000 := by omega
  obtain ⟨h0, ⟨J, B, hst, hS⟩, -, -, -, ⟨T1, hk1⟩, ⟨T4, hk4⟩, -, ⟨Lc, hcd, hcl, hcx⟩, hox, hbx⟩ := id hW
  have hcm : (qNum s.1 12 (gX G ((3 * t) + 1))).1 ≤ 3 := Nat.le_trans (m := 1) (by unfold qNum; (repeat' split) <;> exact Nat.le_of_ble_eq_true rfl) (by decide)
  refine aw_aload_n dL_law_661 rfl rfl ?_
  refine aw_aload_n dL_law_662 rfl rfl ?_
  refine aw_iload dL_law_663 rfl ?_
  refine aw_iconst_n 1 dL_law_665 (by decide) ?_
  refine aw_iadd_n dL_law_666 ?_
  refine aw_sald (sc_in (by omega) hG9) dL_law_667 ?_
  rw [nIc (by omega)]
  refine aw_aload_n dL_law_668 rfl rfl ?_
  refine aw_sW (as := [Value.ref 31, Value.int (gX G ((3 * t) + 1)), Value.ref 153]) (rest := []) mW_L_amplitudeOf (w_amplitudeOf (l := l) (G := G) hW hSB hK9 (by omega) (by omega) (by omega) hl (gX G ((3 * t) + 1))) ml_L_181 dL_law_669 rfl rfl (by decide) (Nat.le_of_ble_eq_true rfl) ⟨by omega, by omega⟩ (fun _ _ _ h => by cases h.1) (fun r1 f1 n1 hn1 h => ?_)
  obtain ⟨g1, -, bp1, o1, hb1, hG, hu1, hv1, hF⟩ := h
  cases g1
  have hm1 := hm.fr (f := f1) (fun a _ _ => hF a (by omega) (by omega) (by omega) (by omega))
  have hoth := hF 154 (by omega) (by omega) (by omega) (by omega)
  refine aw_istore (L' := [(6, .int (nI ((qNum s.1 12 (gX G ((3 * t) + 1))).1))), (5, .int (nI (3 * t))), (4, .ref 154), (3, .ref 153), (2, .ref 144), (1, .ref 31), (0, .ref 0)]) dL_law_672 (Nat.le_of_ble_eq_true rfl) rfl ?_
  refine aw_aload_n dL_law_674 rfl rfl ?_
  refine aw_aload_n dL_law_675 rfl rfl ?_
  refine aw_iload dL_law_676 rfl ?_
  refine aw_iconst_n 1 dL_law_678 (by decide) ?_
  refine aw_iadd_n dL_law_679 ?_
  refine aw_sald (sc_in (by omega) hG9) dL_law_680 ?_
  rw [nIc (by omega)]
  have hq_m := m_amplitudeOf (l := l) (G := G) (n := n1) (f := f1) (o := 144) (I := I) (A := A) hR.1 hB (gX G ((3 * t) + 1))
  rw [hm1.self] at hq_m
  refine aw_cP (as := [Value.int (gX G ((3 * t) + 1))]) (rest := []) (MV.c mV_X11_amplitudeOf) (RQ.pg hR hq_m) ml_L_183 (RC.w hm1.obj rfl) dL_law_681 rfl rfl (by decide) (Nat.le_of_ble_eq_true rfl) ⟨by omega, by omega⟩ (fun _ _ _ h => by cases h.1) (fun r2 f2 n2 hn2 h => ?_)
  obtain ⟨g1, g2, I2, A2, hf2, hR2, h12⟩ := h
  cases g1
  have g2 := g2.symm
  subst g2
  have hm2 : mAt f2 144 I2 A2 := by rw [hf2]; exact mAt.new
  have hE2 : ∀ a, (a < 144 ∨ 153 ≤ a) → f2 a = f1 a := fun a h => by rw [hf2]; exact rU_out (by omega)
  have hG2 := hG.fr (f := f2) (fun a _ _ => hE2 a (by omega)) (hE2 bp1 (by omega)) (Nat.le_refl _)
  refine aw_istore (L' := [(7, .int (nI (qNum s.1 12 (gX G ((3 * t) + 1))).2)), (6, .int (nI ((qNum s.1 12 (gX G ((3 * t) + 1))).1))), (5, .int (nI (3 * t))), (4, .ref 154), (3, .ref 153), (2, .ref 144), (1, .ref 31), (0, .ref 0)]) dL_law_684 (Nat.le_of_ble_eq_true rfl) rfl ?_
  refine aw_aload_n dL_law_686 rfl rfl ?_
  have hq_t := m_thrown (l := l) (G := G) (n := n1) (f := f2) (o := 144) (A := A2) h12
  rw [hm2.self] at hq_t
  refine aw_cI (as := []) (rest := []) (MV.c mV_X11_thrown) hq_t ml_L_155 (RC.w hm2.obj rfl) dL_law_687 rfl rfl (by decide) (Nat.le_of_ble_eq_true rfl) ⟨by omega, by omega⟩ ?_
  refine aw_iload dL_law_690 rfl ?_
  refine aw_icmp_eq (tgt := 697) dL_law_692 (by decide) (fun c_1 => ?_) (fun c_1 => by exfalso; exact c_1 rfl)
  refine aw_iload dL_law_697 rfl ?_
  refine aw_if_ne (tgt := 714) dL_law_699 (by decide) (fun c_2 => ?_) (fun c_2 => ?_)
  · refine aw_goto (tgt := 2549) dL_law_714 (by decide) ?_
    refine aw_sub [(5, .int (nI (3 * t))), (4, .ref 154), (3, .ref 153), (2, .ref 144), (1, .ref 31), (0, .ref 0)] (by simp) ?_
    exact hgo f2 bp1 n1 (s) _ _ ⟨hG2, ⟨I2, A2, hm2, hR2⟩, ⟨o1, (hE2 153 (by omega)).trans hu1⟩, ⟨od, (hE2 154 (by omega)).trans (hoth.trans hd)⟩, by omega, by omega⟩ (hSB.mono (by omega) (by omega)) (by omega) (by omega)
  · have hc0 := nI_0c hcm c_2
    refine aw_aload_n dL_law_702 rfl rfl ?_
    refine aw_iconst_n 0 dL_law_703 (by decide) ?_
    refine aw_lald ((hE2 153 (by omega)).trans hu1) (vp_in_nI (by decide) (by decide)) dL_law_704 ?_
    rw [nIc (by decide), hv1 hc0]
    refine aw_iload dL_law_705 rfl ?_
    refine aw_i2l dL_law_707 ?_
    refine aw_lcmp dL_law_708 ?_
    refine aw_if_eq (tgt := 714) dL_law_709 (by decide) (fun c_3 => ?_) (fun c_3 => by exfalso; exact c_3 (lcmp_same _))
    refine aw_goto (tgt := 2549) dL_law_714 (by decide) ?_
    refine aw_sub [(5, .int (nI (3 * t))), (4, .ref 154), (3, .ref 153), (2, .ref 144), (1, .ref 31), (0, .ref 0)] (by simp) ?_
    exact hgo f2 bp1 n1 (s) _ _ ⟨hG2, ⟨I2, A2, hm2, hR2⟩, ⟨o1, (hE2 153 (by omega)).trans hu1⟩, ⟨od, (hE2 154 (by omega)).trans (hoth.trans hd)⟩, by omega, by omega⟩ (hSB.mono (by omega) (by omega)) (by omega) (by omega)
set_option maxHeartbeats 4000000 in
theorem lc_9 {l : Launch} {G : GT} {n0 t : Nat} {hh : List ExceptionTableEntry} {nm : String} (hG9 : gN G ≤ 1536) (ht : 3 * t + 2 < gN G) (ht9 : t < 512) (hgo : LGo l G n0 t hh nm) : LCase l G n0 t hh nm 717 := by
  intro f bp n s nc ns hI hSB hnc hns
  obtain ⟨hW, ⟨I, A, hm, hR⟩, ⟨o, hl⟩, ⟨od, hd⟩, hn155, hbp⟩ := hI
  have hB := hSB.1
  have hc8 := hSB.2.1
  have hK9 : 30500 * t + 30500 < 16000000 := by omega
  obtain ⟨h0, ⟨J, B, hst, hS⟩, -, -, -, ⟨T1, hk1⟩, ⟨T4, hk4⟩, -, ⟨Lc, hcd, hcl, hcx⟩, hox, hbx⟩ := id hW
  have hcm : (qStart s.1 (gX G ((3 * t) + 1))).1 ≤ 3 := Nat.le_trans (m := 2) (by unfold qStart; (repeat' split) <;> exact Nat.le_of_ble_eq_true rfl) (by decide)
  refine aw_aload_n dL_law_717 rfl rfl ?_
  refine aw_aload_n dL_law_718 rfl rfl ?_
  refine aw_iload dL_law_719 rfl ?_
  refine aw_iconst_n 1 dL_law_721 (by decide) ?_
  refine aw_iadd_n dL_law_722 ?_
  refine aw_sald (sc_in (by omega) hG9) dL_law_723 ?_
  rw [nIc (by omega)]
  refine aw_aload_n dL_law_724 rfl rfl ?_
  refine aw_sW (as := [Value.ref 31, Value.int (gX G ((3 * t) + 1)), Value.ref 153]) (rest := []) mW_L_startOf (w_startOf (l := l) (G := G) hW hSB hK9 (by omega) (by omega) (by omega) hl (gX G ((3 * t) + 1))) ml_L_184 dL_law_725 rfl rfl (by decide) (Nat.le_of_ble_eq_true rfl) ⟨by omega, by omega⟩ (fun _ _ _ h => by cases h.1) (fun r1 f1 n1 hn1 h => ?_)
  obtain ⟨g1, -, bp1, o1, hb1, hG, hu1, hv1, hF⟩ := h
  cases g1
  have hm1 := hm.fr (f := f1) (fun a _ _ => hF a (by omega) (by omega) (by omega) (by omega))
  have hoth := hF 154 (by omega) (by omega) (by omega) (by omega)
  refine aw_istore (L' := [(6, .int (nI ((qStart s.1 (gX G ((3 * t) + 1))).1))), (5, .int (nI (3 * t))), (4, .ref 154), (3, .ref 153), (2, .ref 144), (1, .ref 31), (0, .ref 0)]) dL_law_728 (Nat.le_of_ble_eq_true rfl) rfl ?_
  refine aw_aload_n dL_law_730 rfl rfl ?_
  refine aw_aload_n dL_law_731 rfl rfl ?_
  refine aw_iload dL_law_732 rfl ?_
  refine aw_iconst_n 1 dL_law_734 (by decide) ?_
  refine aw_iadd_n dL_law_735 ?_
  refine aw_sald (sc_in (by omega) hG9) dL_law_736 ?_
  rw [nIc (by omega)]
  have hq_m := m_startOf (l := l) (G := G) (n := n1) (f := f1) (o := 144) (I := I) (A := A) hR.1 hB (gX G ((3 * t) + 1))
  rw [hm1.self] at hq_m
  refine aw_cP (as := [Value.int (gX G ((3 * t) + 1))]) (rest := []) (MV.c mV_X11_startOf) (RQ.pg hR hq_m) ml_L_186 (RC.w hm1.obj rfl) dL_law_737 rfl rfl (by decide) (Nat.le_of_ble_eq_true rfl) ⟨by omega, by omega⟩ (fun _ _ _ h => by cases h.1) (fun r2 f2 n2 hn2 h => ?_)
  obtain ⟨g1, g2, I2, A2, hf2, hR2, h12⟩ := h
  cases g1
  have g2 := g2.symm
  subst g2
  have hm2 : mAt f2 144 I2 A2 := by rw [hf2]; exact mAt.new
  have hE2 : ∀ a, (a < 144 ∨ 153 ≤ a) → f2 a = f1 a := fun a h => by rw [hf2]; exact rU_out (by omega)
  have hG2 := hG.fr (f := f2) (fun a _ _ => hE2 a (by omega)) (hE2 bp1 (by omega)) (Nat.le_refl _)
  refine aw_istore (L' := [(7, .int (nI (qStart s.1 (gX G ((3 * t) + 1))).2)), (6, .int (nI ((qStart s.1 (gX G ((3 * t) + 1))).1))), (5, .int (nI (3 * t))), (4, .ref 154), (3, .ref 153), (2, .ref 144), (1, .ref 31), (0, .ref 0)]) dL_law_740 (Nat.le_of_ble_eq_true rfl) rfl ?_
  refine aw_aload_n dL_law_742 rfl rfl ?_
  have hq_t := m_thrown (l := l) (G := G) (n := n1) (f := f2) (o := 144) (A := A2) h12
  rw [hm2.self] at hq_t
  refine aw_cI (as := []) (rest := []) (MV.c mV_X11_thrown) hq_t ml_L_155 (RC.w hm2.obj rfl) dL_law_743 rfl rfl (by decide) (Nat.le_of_ble_eq_true rfl) ⟨by omega, by omega⟩ ?_
  refine aw_iload dL_law_746 rfl ?_
  refine aw_icmp_eq (tgt := 753) dL_law_748 (by decide) (fun c_1 => ?_) (fun c_1 => by exfalso; exact c_1 rfl)
  refine aw_iload dL_law_753 rfl ?_
  refine aw_if_ne (tgt := 770) dL_law_755 (by decide) (fun c_2 => ?_) (fun c_2 => ?_)
  · refine aw_goto (tgt := 2549) dL_law_770 (by decide) ?_
    refine aw_sub [(5, .int (nI (3 * t))), (4, .ref 154), (3, .ref 153), (2, .ref 144), (1, .ref 31), (0, .ref 0)] (by simp) ?_
    exact hgo f2 bp1 n1 (s) _ _ ⟨hG2, ⟨I2, A2, hm2, hR2⟩, ⟨o1, (hE2 153 (by omega)).trans hu1⟩, ⟨od, (hE2 154 (by omega)).trans (hoth.trans hd)⟩, by omega, by omega⟩ (hSB.mono (by omega) (by omega)) (by omega) (by omega)
  · have hc0 := nI_0c hcm c_2
    refine aw_aload_n dL_law_758 rfl rfl ?_
    refine aw_iconst_n 0 dL_law_759 (by decide) ?_
    refine aw_lald ((hE2 153 (by omega)).trans hu1) (vp_in_nI (by decide) (by decide)) dL_law_760 ?_
    rw [nIc (by decide), hv1 hc0]
    refine aw_iload dL_law_761 rfl ?_
    refine aw_i2l dL_law_763 ?_
    refine aw_lcmp dL_law_764 ?_
    refine aw_if_eq (tgt := 770) dL_law_765 (by decide) (fun c_3 => ?_) (fun c_3 => by exfalso; exact c_3 (lcmp_same _))
    refine aw_goto (tgt := 2549) dL_law_770 (by decide) ?_
    refine aw_sub [(5, .int (nI (3 * t))), (4, .ref 154), (3, .ref 153), (2, .ref 144), (1, .ref 31), (0, .ref 0)] (by simp) ?_
    exact hgo f2 bp1 n1 (s) _ _ ⟨hG2, ⟨I2, A2, hm2, hR2⟩, ⟨o1, (hE2 153 (by omega)).trans hu1⟩, ⟨od, (hE2 154 (by omega)).trans (hoth.trans hd)⟩, by omega, by omega⟩ (hSB.mono (by omega) (by omega)) (by omega) (by omega)
set_option maxHeartbeats 4000000 in
theorem lc_10 {l : Launch} {G : GT} {n0 t : Nat} {hh : List ExceptionTableEntry} {nm : String} (hG9 : gN G ≤ 1536) (ht : 3 * t + 2 < gN G) (ht9 : t < 512) (hgo : LGo l G n0 t hh nm) : LCase l G n0 t hh nm 773 := by
  intro f bp n s nc ns hI hSB hnc hns
  obtain ⟨hW, ⟨I, A, hm, hR⟩, ⟨o, hl⟩, ⟨od, hd⟩, hn155, hbp⟩ := hI
  have hB := hSB.1
  have hc8 := hSB.2.1
  have hK9 : 30500 * t + 30500 < 16000000 := by omega
  obtain ⟨h0, ⟨J, B, hst, hS⟩, -, -, -, ⟨T1, hk1⟩, ⟨T4, hk4⟩, -, ⟨Lc, hcd, hcl, hcx⟩, hox, hbx⟩ := id hW
  have hcm : (qPeriod s.1 (gX G ((3 * t) + 1))).1 ≤ 3 := Nat.le_trans (m := 1) (by unfold qPeriod; (repeat' split) <;> exact Nat.le_of_ble_eq_true rfl) (by decide)
  refine aw_aload_n dL_law_773 rfl rfl ?_
  refine aw_aload_n dL_law_774 rfl rfl ?_
  refine aw_iload dL_law_775 rfl ?_
  refine aw_iconst_n 1 dL_law_777 (by decide) ?_
  refine aw_iadd_n dL_law_778 ?_
  refine aw_sald (sc_in (by omega) hG9) dL_law_779 ?_
  rw [nIc (by omega)]
  refine aw_aload_n dL_law_780 rfl rfl ?_
  refine aw_sW (as := [Value.ref 31, Value.int (gX G ((3 * t) + 1)), Value.ref 153]) (rest := []) mW_L_periodOf (w_periodOf (l := l) (G := G) hW hSB hK9 (by omega) (by omega) (by omega) hl (gX G ((3 * t) + 1))) ml_L_187 dL_law_781 rfl rfl (by decide) (Nat.le_of_ble_eq_true rfl) ⟨by omega, by omega⟩ (fun _ _ _ h => by cases h.1) (fun r1 f1 n1 hn1 h => ?_)
  obtain ⟨g1, -, bp1, o1, hb1, hG, hu1, hv1, hF⟩ := h
  cases g1
  have hm1 := hm.fr (f := f1) (fun a _ _ => hF a (by omega) (by omega) (by omega) (by omega))
  have hoth := hF 154 (by omega) (by omega) (by omega) (by omega)
  refine aw_istore (L' := [(6, .int (nI ((qPeriod s.1 (gX G ((3 * t) + 1))).1))), (5, .int (nI (3 * t))), (4, .ref 154), (3, .ref 153), (2, .ref 144), (1, .ref 31), (0, .ref 0)]) dL_law_784 (Nat.le_of_ble_eq_true rfl) rfl ?_
  refine aw_aload_n dL_law_786 rfl rfl ?_
  refine aw_aload_n dL_law_787 rfl rfl ?_
  refine aw_iload dL_law_788 rfl ?_
  refine aw_iconst_n 1 dL_law_790 (by decide) ?_
  refine aw_iadd_n dL_law_791 ?_
  refine aw_sald (sc_in (by omega) hG9) dL_law_792 ?_
  rw [nIc (by omega)]
  have hq_m := m_periodOf (l := l) (G := G) (n := n1) (f := f1) (o := 144) (I := I) (A := A) hR.1 hB (gX G ((3 * t) + 1))
  rw [hm1.self] at hq_m
  refine aw_cP (as := [Value.int (gX G ((3 * t) + 1))]) (rest := []) (MV.c mV_X11_periodOf) (RQ.pg hR hq_m) ml_L_189 (RC.w hm1.obj rfl) dL_law_793 rfl rfl (by decide) (Nat.le_of_ble_eq_true rfl) ⟨by omega, by omega⟩ (fun _ _ _ h => by cases h.1) (fun r2 f2 n2 hn2 h => ?_)
  obtain ⟨g1, g2, I2, A2, hf2, hR2, h12⟩ := h
  cases g1
  have g2 := g2.symm
  subst g2
  have hm2 : mAt f2 144 I2 A2 := by rw [hf2]; exact mAt.new
  have hE2 : ∀ a, (a < 144 ∨ 153 ≤ a) → f2 a = f1 a := fun a h => by rw [hf2]; exact rU_out (by omega)
  have hG2 := hG.fr (f := f2) (fun a _ _ => hE2 a (by omega)) (hE2 bp1 (by omega)) (Nat.le_refl _)
  refine aw_istore (L' := [(7, .int (nI (qPeriod s.1 (gX G ((3 * t) + 1))).2)), (6, .int (nI ((qPeriod s.1 (gX G ((3 * t) + 1))).1))), (5, .int (nI (3 * t))), (4, .ref 154), (3, .ref 153), (2, .ref 144), (1, .ref 31), (0, .ref 0)]) dL_law_796 (Nat.le_of_ble_eq_true rfl) rfl ?_
  refine aw_aload_n dL_law_798 rfl rfl ?_
  have hq_t := m_thrown (l := l) (G := G) (n := n1) (f := f2) (o := 144) (A := A2) h12
  rw [hm2.self] at hq_t
  refine aw_cI (as := []) (rest := []) (MV.c mV_X11_thrown) hq_t ml_L_155 (RC.w hm2.obj rfl) dL_law_799 rfl rfl (by decide) (Nat.le_of_ble_eq_true rfl) ⟨by omega, by omega⟩ ?_
  refine aw_iload dL_law_802 rfl ?_
  refine aw_icmp_eq (tgt := 809) dL_law_804 (by decide) (fun c_1 => ?_) (fun c_1 => by exfalso; exact c_1 rfl)
  refine aw_iload dL_law_809 rfl ?_
  refine aw_if_ne (tgt := 826) dL_law_811 (by decide) (fun c_2 => ?_) (fun c_2 => ?_)
  · refine aw_goto (tgt := 2549) dL_law_826 (by decide) ?_
    refine aw_sub [(5, .int (nI (3 * t))), (4, .ref 154), (3, .ref 153), (2, .ref 144), (1, .ref 31), (0, .ref 0)] (by simp) ?_
    exact hgo f2 bp1 n1 (s) _ _ ⟨hG2, ⟨I2, A2, hm2, hR2⟩, ⟨o1, (hE2 153 (by omega)).trans hu1⟩, ⟨od, (hE2 154 (by omega)).trans (hoth.trans hd)⟩, by omega, by omega⟩ (hSB.mono (by omega) (by omega)) (by omega) (by omega)
  · have hc0 := nI_0c hcm c_2
    refine aw_aload_n dL_law_814 rfl rfl ?_
    refine aw_iconst_n 0 dL_law_815 (by decide) ?_
    refine aw_lald ((hE2 153 (by omega)).trans hu1) (vp_in_nI (by decide) (by decide)) dL_law_816 ?_
    rw [nIc (by decide), hv1 hc0]
    refine aw_iload dL_law_817 rfl ?_
    refine aw_i2l dL_law_819 ?_
    refine aw_lcmp dL_law_820 ?_
    refine aw_if_eq (tgt := 826) dL_law_821 (by decide) (fun c_3 => ?_) (fun c_3 => by exfalso; exact c_3 (lcmp_same _))
    refine aw_goto (tgt := 2549) dL_law_826 (by decide) ?_
    refine aw_sub [(5, .int (nI (3 * t))), (4, .ref 154), (3, .ref 153), (2, .ref 144), (1, .ref 31), (0, .ref 0)] (by simp) ?_
    exact hgo f2 bp1 n1 (s) _ _ ⟨hG2, ⟨I2, A2, hm2, hR2⟩, ⟨o1, (hE2 153 (by omega)).trans hu1⟩, ⟨od, (hE2 154 (by omega)).trans (hoth.trans hd)⟩, by omega, by omega⟩ (hSB.mono (by omega) (by omega)) (by omega) (by omega)
set_option maxHeartbeats 4000000 in
theorem lc_11 {l : Launch} {G : GT} {n0 t : Nat} {hh : List ExceptionTableEntry} {nm : String} (hG9 : gN G ≤ 1536) (ht : 3 * t + 2 < gN G) (ht9 : t < 512) (hgo : LGo l G n0 t hh nm) : LCase l G n0 t hh nm 829 := by
  intro f bp n s nc ns hI hSB hnc hns
  obtain ⟨hW, ⟨I, A, hm, hR⟩, ⟨o, hl⟩, ⟨od, hd⟩, hn155, hbp⟩ := hI
  have hB := hSB.1
  have hc8 := hSB.2.1
  have hK9 : 30500 * t + 30500 < 16000000 := by omega
  obtain ⟨h0, ⟨J, B, hst, hS⟩, -, -, -, ⟨T1, hk1⟩, ⟨T4, hk4⟩, -, ⟨Lc, hcd, hcl, hcx⟩, hox, hbx⟩ := id hW
  have hcm : (qPeriod s.1 (gX G ((3 * t) + 1))).1 ≤ 3 := Nat.le_trans (m := 1) (by unfold qPeriod; (repeat' split) <;> exact Nat.le_of_ble_eq_true rfl) (by decide)
  refine aw_aload_n dL_law_829 rfl rfl ?_
  refine aw_aload_n dL_law_830 rfl rfl ?_
  refine aw_iload dL_law_831 rfl ?_
  refine aw_iconst_n 1 dL_law_833 (by decide) ?_
  refine aw_iadd_n dL_law_834 ?_
  refine aw_sald (sc_in (by omega) hG9) dL_law_835 ?_
  rw [nIc (by omega)]
  refine aw_aload_n dL_law_836 rfl rfl ?_
  refine aw_sW (as := [Value.ref 31, Value.int (gX G ((3 * t) + 1)), Value.ref 153]) (rest := []) mW_L_periodByEstimates (w_periodByEstimates (l := l) (G := G) hW hSB hK9 (by omega) (by omega) (by omega) hl (gX G ((3 * t) + 1))) ml_L_190 dL_law_837 rfl rfl (by decide) (Nat.le_of_ble_eq_true rfl) ⟨by omega, by omega⟩ (fun _ _ _ h => by cases h.1) (fun r1 f1 n1 hn1 h => ?_)
  obtain ⟨g1, -, bp1, o1, hb1, hG, hu1, hv1, hF⟩ := h
  cases g1
  have hm1 := hm.fr (f := f1) (fun a _ _ => hF a (by omega) (by omega) (by omega) (by omega))
  have hoth := hF 154 (by omega) (by omega) (by omega) (by omega)
  refine aw_istore (L' := [(6, .int (nI ((qPeriod s.1 (gX G ((3 * t) + 1))).1))), (5, .int (nI (3 * t))), (4, .ref 154), (3, .ref 153), (2, .ref 144), (1, .ref 31), (0, .ref 0)]) dL_law_840 (Nat.le_of_ble_eq_true rfl) rfl ?_
  refine aw_aload_n dL_law_842 rfl rfl ?_
  refine aw_aload_n dL_law_843 rfl rfl ?_
  refine aw_iload dL_law_844 rfl ?_
  refine aw_iconst_n 1 dL_law_846 (by decide) ?_
  refine aw_iadd_n dL_law_847 ?_
  refine aw_sald (sc_in (by omega) hG9) dL_law_848 ?_
  rw [nIc (by omega)]
  have hq_m := m_periodByEstimates (l := l) (G := G) (n := n1) (f := f1) (o := 144) (I := I) (A := A) hR.1 hB (gX G ((3 * t) + 1))
  rw [hm1.self] at hq_m
  refine aw_cP (as := [Value.int (gX G ((3 * t) + 1))]) (rest := []) (MV.c mV_X11_periodByEstimates) (RQ.pg hR hq_m) ml_L_192 (RC.w hm1.obj rfl) dL_law_849 rfl rfl (by decide) (Nat.le_of_ble_eq_true rfl) ⟨by omega, by omega⟩ (fun _ _ _ h => by cases h.1) (fun r2 f2 n2 hn2 h => ?_)
  obtain ⟨g1, g2, I2, A2, hf2, hR2, h12⟩ := h
  cases g1
  have g2 := g2.symm
  subst g2
  have hm2 : mAt f2 144 I2 A2 := by rw [hf2]; exact mAt.new
  have hE2 : ∀ a, (a < 144 ∨ 153 ≤ a) → f2 a = f1 a := fun a h => by rw [hf2]; exact rU_out (by omega)
  have hG2 := hG.fr (f := f2) (fun a _ _ => hE2 a (by omega)) (hE2 bp1 (by omega)) (Nat.le_refl _)
  refine aw_istore (L' := [(7, .int (nI (qPeriod s.1 (gX G ((3 * t) + 1))).2)), (6, .int (nI ((qPeriod s.1 (gX G ((3 * t) + 1))).1))), (5, .int (nI (3 * t))), (4, .ref 154), (3, .ref 153), (2, .ref 144), (1, .ref 31), (0, .ref 0)]) dL_law_852 (Nat.le_of_ble_eq_true rfl) rfl ?_
  refine aw_aload_n dL_law_854 rfl rfl ?_
  have hq_t := m_thrown (l := l) (G := G) (n := n1) (f := f2) (o := 144) (A := A2) h12
  rw [hm2.self] at hq_t
  refine aw_cI (as := []) (rest := []) (MV.c mV_X11_thrown) hq_t ml_L_155 (RC.w hm2.obj rfl) dL_law_855 rfl rfl (by decide) (Nat.le_of_ble_eq_true rfl) ⟨by omega, by omega⟩ ?_
  refine aw_iload dL_law_858 rfl ?_
  refine aw_icmp_eq (tgt := 865) dL_law_860 (by decide) (fun c_1 => ?_) (fun c_1 => by exfalso; exact c_1 rfl)
  refine aw_iload dL_law_865 rfl ?_
  refine aw_if_ne (tgt := 882) dL_law_867 (by decide) (fun c_2 => ?_) (fun c_2 => ?_)
  · refine aw_goto (tgt := 2549) dL_law_882 (by decide) ?_
    refine aw_sub [(5, .int (nI (3 * t))), (4, .ref 154), (3, .ref 153), (2, .ref 144), (1, .ref 31), (0, .ref 0)] (by simp) ?_
    exact hgo f2 bp1 n1 (s) _ _ ⟨hG2, ⟨I2, A2, hm2, hR2⟩, ⟨o1, (hE2 153 (by omega)).trans hu1⟩, ⟨od, (hE2 154 (by omega)).trans (hoth.trans hd)⟩, by omega, by omega⟩ (hSB.mono (by omega) (by omega)) (by omega) (by omega)
  · have hc0 := nI_0c hcm c_2
    refine aw_aload_n dL_law_870 rfl rfl ?_
    refine aw_iconst_n 0 dL_law_871 (by decide) ?_
    refine aw_lald ((hE2 153 (by omega)).trans hu1) (vp_in_nI (by decide) (by decide)) dL_law_872 ?_
    rw [nIc (by decide), hv1 hc0]
    refine aw_iload dL_law_873 rfl ?_
    refine aw_i2l dL_law_875 ?_
    refine aw_lcmp dL_law_876 ?_
    refine aw_if_eq (tgt := 882) dL_law_877 (by decide) (fun c_3 => ?_) (fun c_3 => by exfalso; exact c_3 (lcmp_same _))
    refine aw_goto (tgt := 2549) dL_law_882 (by decide) ?_
    refine aw_sub [(5, .int (nI (3 * t))), (4, .ref 154), (3, .ref 153), (2, .ref 144), (1, .ref 31), (0, .ref 0)] (by simp) ?_
    exact hgo f2 bp1 n1 (s) _ _ ⟨hG2, ⟨I2, A2, hm2, hR2⟩, ⟨o1, (hE2 153 (by omega)).trans hu1⟩, ⟨od, (hE2 154 (by omega)).trans (hoth.trans hd)⟩, by omega, by omega⟩ (hSB.mono (by omega) (by omega)) (by omega) (by omega)
set_option maxHeartbeats 4000000 in
theorem lc_12 {l : Launch} {G : GT} {n0 t : Nat} {hh : List ExceptionTableEntry} {nm : String} (hG9 : gN G ≤ 1536) (ht : 3 * t + 2 < gN G) (ht9 : t < 512) (hgo : LGo l G n0 t hh nm) : LCase l G n0 t hh nm 885 := by
  intro f bp n s nc ns hI hSB hnc hns
  obtain ⟨hW, ⟨I, A, hm, hR⟩, ⟨o, hl⟩, ⟨od, hd⟩, hn155, hbp⟩ := hI
  have hB := hSB.1
  have hc8 := hSB.2.1
  have hK9 : 30500 * t + 30500 < 16000000 := by omega
  obtain ⟨h0, ⟨J, B, hst, hS⟩, -, -, -, ⟨T1, hk1⟩, ⟨T4, hk4⟩, -, ⟨Lc, hcd, hcl, hcx⟩, hox, hbx⟩ := id hW
  have hcm : (qNum s.1 28 (gX G ((3 * t) + 1))).1 ≤ 3 := Nat.le_trans (m := 1) (by unfold qNum; (repeat' split) <;> exact Nat.le_of_ble_eq_true rfl) (by decide)
  refine aw_aload_n dL_law_885 rfl rfl ?_
  refine aw_aload_n dL_law_886 rfl rfl ?_
  refine aw_iload dL_law_887 rfl ?_
  refine aw_iconst_n 1 dL_law_889 (by decide) ?_
  refine aw_iadd_n dL_law_890 ?_
  refine aw_sald (sc_in (by omega) hG9) dL_law_891 ?_
  rw [nIc (by omega)]
  refine aw_aload_n dL_law_892 rfl rfl ?_
  refine aw_sW (as := [Value.ref 31, Value.int (gX G ((3 * t) + 1)), Value.ref 153]) (rest := []) mW_L_swingsOf (w_swingsOf (l := l) (G := G) hW hSB hK9 (by omega) (by omega) (by omega) hl (gX G ((3 * t) + 1))) ml_L_193 dL_law_893 rfl rfl (by decide) (Nat.le_of_ble_eq_true rfl) ⟨by omega, by omega⟩ (fun _ _ _ h => by cases h.1) (fun r1 f1 n1 hn1 h => ?_)
  obtain ⟨g1, -, bp1, o1, hb1, hG, hu1, hv1, hF⟩ := h
  cases g1
  have hm1 := hm.fr (f := f1) (fun a _ _ => hF a (by omega) (by omega) (by omega) (by omega))
  have hoth := hF 154 (by omega) (by omega) (by omega) (by omega)
  refine aw_istore (L' := [(6, .int (nI ((qNum s.1 28 (gX G ((3 * t) + 1))).1))), (5, .int (nI (3 * t))), (4, .ref 154), (3, .ref 153), (2, .ref 144), (1, .ref 31), (0, .ref 0)]) dL_law_896 (Nat.le_of_ble_eq_true rfl) rfl ?_
  refine aw_aload_n dL_law_898 rfl rfl ?_
  refine aw_aload_n dL_law_899 rfl rfl ?_
  refine aw_iload dL_law_900 rfl ?_
  refine aw_iconst_n 1 dL_law_902 (by decide) ?_
  refine aw_iadd_n dL_law_903 ?_
  refine aw_sald (sc_in (by omega) hG9) dL_law_904 ?_
  rw [nIc (by omega)]
  have hq_m := m_swingsOf (l := l) (G := G) (n := n1) (f := f1) (o := 144) (I := I) (A := A) hR.1 hB (gX G ((3 * t) + 1))
  rw [hm1.self] at hq_m
  refine aw_cP (as := [Value.int (gX G ((3 * t) + 1))]) (rest := []) (MV.c mV_X11_swingsOf) (RQ.pg hR hq_m) ml_L_195 (RC.w hm1.obj rfl) dL_law_905 rfl rfl (by decide) (Nat.le_of_ble_eq_true rfl) ⟨by omega, by omega⟩ (fun _ _ _ h => by cases h.1) (fun r2 f2 n2 hn2 h => ?_)
  obtain ⟨g1, g2, I2, A2, hf2, hR2, h12⟩ := h
  cases g1
  have g2 := g2.symm
  subst g2
  have hm2 : mAt f2 144 I2 A2 := by rw [hf2]; exact mAt.new
  have hE2 : ∀ a, (a < 144 ∨ 153 ≤ a) → f2 a = f1 a := fun a h => by rw [hf2]; exact rU_out (by omega)
  have hG2 := hG.fr (f := f2) (fun a _ _ => hE2 a (by omega)) (hE2 bp1 (by omega)) (Nat.le_refl _)
  refine aw_istore (L' := [(7, .int (nI (qNum s.1 28 (gX G ((3 * t) + 1))).2)), (6, .int (nI ((qNum s.1 28 (gX G ((3 * t) + 1))).1))), (5, .int (nI (3 * t))), (4, .ref 154), (3, .ref 153), (2, .ref 144), (1, .ref 31), (0, .ref 0)]) dL_law_908 (Nat.le_of_ble_eq_true rfl) rfl ?_
  refine aw_aload_n dL_law_910 rfl rfl ?_
  have hq_t := m_thrown (l := l) (G := G) (n := n1) (f := f2) (o := 144) (A := A2) h12
  rw [hm2.self] at hq_t
  refine aw_cI (as := []) (rest := []) (MV.c mV_X11_thrown) hq_t ml_L_155 (RC.w hm2.obj rfl) dL_law_911 rfl rfl (by decide) (Nat.le_of_ble_eq_true rfl) ⟨by omega, by omega⟩ ?_
  refine aw_iload dL_law_914 rfl ?_
  refine aw_icmp_eq (tgt := 921) dL_law_916 (by decide) (fun c_1 => ?_) (fun c_1 => by exfalso; exact c_1 rfl)
  refine aw_iload dL_law_921 rfl ?_
  refine aw_if_ne (tgt := 938) dL_law_923 (by decide) (fun c_2 => ?_) (fun c_2 => ?_)
  · refine aw_goto (tgt := 2549) dL_law_938 (by decide) ?_
    refine aw_sub [(5, .int (nI (3 * t))), (4, .ref 154), (3, .ref 153), (2, .ref 144), (1, .ref 31), (0, .ref 0)] (by simp) ?_
    exact hgo f2 bp1 n1 (s) _ _ ⟨hG2, ⟨I2, A2, hm2, hR2⟩, ⟨o1, (hE2 153 (by omega)).trans hu1⟩, ⟨od, (hE2 154 (by omega)).trans (hoth.trans hd)⟩, by omega, by omega⟩ (hSB.mono (by omega) (by omega)) (by omega) (by omega)
  · have hc0 := nI_0c hcm c_2
    refine aw_aload_n dL_law_926 rfl rfl ?_
    refine aw_iconst_n 0 dL_law_927 (by decide) ?_
    refine aw_lald ((hE2 153 (by omega)).trans hu1) (vp_in_nI (by decide) (by decide)) dL_law_928 ?_
    rw [nIc (by decide), hv1 hc0]
    refine aw_iload dL_law_929 rfl ?_
    refine aw_i2l dL_law_931 ?_
    refine aw_lcmp dL_law_932 ?_
    refine aw_if_eq (tgt := 938) dL_law_933 (by decide) (fun c_3 => ?_) (fun c_3 => by exfalso; exact c_3 (lcmp_same _))
    refine aw_goto (tgt := 2549) dL_law_938 (by decide) ?_
    refine aw_sub [(5, .int (nI (3 * t))), (4, .ref 154), (3, .ref 153), (2, .ref 144), (1, .ref 31), (0, .ref 0)] (by simp) ?_
    exact hgo f2 bp1 n1 (s) _ _ ⟨hG2, ⟨I2, A2, hm2, hR2⟩, ⟨o1, (hE2 153 (by omega)).trans hu1⟩, ⟨od, (hE2 154 (by omega)).trans (hoth.trans hd)⟩, by omega, by omega⟩ (hSB.mono (by omega) (by omega)) (by omega) (by omega)
set_option maxHeartbeats 4000000 in
theorem lc_13 {l : Launch} {G : GT} {n0 t : Nat} {hh : List ExceptionTableEntry} {nm : String} (hG9 : gN G ≤ 1536) (ht : 3 * t + 2 < gN G) (ht9 : t < 512) (hgo : LGo l G n0 t hh nm) : LCase l G n0 t hh nm 941 := by
  intro f bp n s nc ns hI hSB hnc hns
  obtain ⟨hW, ⟨I, A, hm, hR⟩, ⟨o, hl⟩, ⟨od, hd⟩, hn155, hbp⟩ := hI
  have hB := hSB.1
  have hc8 := hSB.2.1
  have hK9 : 30500 * t + 30500 < 16000000 := by omega
  obtain ⟨h0, ⟨J, B, hst, hS⟩, -, -, -, ⟨T1, hk1⟩, ⟨T4, hk4⟩, -, ⟨Lc, hcd, hcl, hcx⟩, hox, hbx⟩ := id hW
  skip
  refine aw_aload_n dL_law_941 rfl rfl ?_
  have hq_g := HQ.gx (es := []) (c := 0) hW (g_clock (l := l) (G := G) (n := n) h0 hst hS hB)
  refine aw_cP (as := []) (rest := []) (MV.c mV_X10_clock) hq_g ml_L_196 (RC.w h0 rfl) dL_law_942 rfl rfl (by decide) (Nat.le_of_ble_eq_true rfl) ⟨by omega, by omega⟩ (fun _ _ _ h => by obtain ⟨h9, -⟩ := h; exact absurd rfl (xA_inr h9).1) (fun r1 f1 n1 hn1 h => ?_)
  obtain ⟨g1, -, bp1, hb1, hG, hF⟩ := h
  obtain ⟨-, g1⟩ := xA_inl g1
  subst g1
  have hm1 := hm.fr (f := f1) (fun a _ _ => hF a (by omega) (by omega) (by omega))
  have ho3 := hF 153 (by omega) (by omega) (by omega)
  have ho4 := hF 154 (by omega) (by omega) (by omega)
  refine aw_aload_n dL_law_945 rfl rfl ?_
  have hq_m := m_clock (l := l) (G := G) (n := n1) (f := f1) (o := 144) (I := I) (A := A) hR.1 hB
  rw [hm1.self] at hq_m
  refine aw_cP (as := []) (rest := [Value.int (nI (s.1 0))]) (MV.c mV_X11_clock) (RQ.pg (q := (0, s.1 0)) hR hq_m) ml_L_199 (RC.w hm1.obj rfl) dL_law_946 rfl rfl (by decide) (Nat.le_of_ble_eq_true rfl) ⟨by omega, by omega⟩ (fun _ _ _ h => by cases h.1) (fun r2 f2 n2 hn2 h => ?_)
  obtain ⟨g1, g2, I2, A2, hf2, hR2, h12⟩ := h
  cases g1
  have g2 := g2.symm
  subst g2
  have hm2 : mAt f2 144 I2 A2 := by rw [hf2]; exact mAt.new
  have hE2 : ∀ a, (a < 144 ∨ 153 ≤ a) → f2 a = f1 a := fun a h => by rw [hf2]; exact rU_out (by omega)
  have hG2 := hG.fr (f := f2) (fun a _ _ => hE2 a (by omega)) (hE2 bp1 (by omega)) (Nat.le_refl _)
  refine aw_icmp_eq (tgt := 2549) dL_law_949 (by decide) (fun c_1 => ?_) (fun c_1 => by exfalso; exact c_1 rfl)
  refine aw_sub [(5, .int (nI (3 * t))), (4, .ref 154), (3, .ref 153), (2, .ref 144), (1, .ref 31), (0, .ref 0)] (by simp) ?_
  exact hgo f2 bp1 n1 (s) _ _ ⟨hG2, ⟨I2, A2, hm2, hR2⟩, ⟨o, (hE2 153 (by omega)).trans (ho3.trans hl)⟩, ⟨od, (hE2 154 (by omega)).trans (ho4.trans hd)⟩, by omega, by omega⟩ (hSB.mono (by omega) (by omega)) (by omega) (by omega)
set_option maxHeartbeats 4000000 in
theorem lc_14 {l : Launch} {G : GT} {n0 t : Nat} {hh : List ExceptionTableEntry} {nm : String} (hG9 : gN G ≤ 1536) (ht : 3 * t + 2 < gN G) (ht9 : t < 512) (hgo : LGo l G n0 t hh nm) : LCase l G n0 t hh nm 954 := by
  intro f bp n s nc ns hI hSB hnc hns
  obtain ⟨hW, ⟨I, A, hm, hR⟩, ⟨o, hl⟩, ⟨od, hd⟩, hn155, hbp⟩ := hI
  have hB := hSB.1
  have hc8 := hSB.2.1
  have hK9 : 30500 * t + 30500 < 16000000 := by omega
  obtain ⟨h0, ⟨J, B, hst, hS⟩, -, -, -, ⟨T1, hk1⟩, ⟨T4, hk4⟩, -, ⟨Lc, hcd, hcl, hcx⟩, hox, hbx⟩ := id hW
  skip
  refine aw_aload_n dL_law_954 rfl rfl ?_
  have hq_g := HQ.gx (es := []) (c := 0) hW (g_friction (l := l) (G := G) (n := n) h0 hst hS hB)
  refine aw_cP (as := []) (rest := []) (MV.c mV_X10_friction) hq_g ml_L_200 (RC.w h0 rfl) dL_law_955 rfl rfl (by decide) (Nat.le_of_ble_eq_true rfl) ⟨by omega, by omega⟩ (fun _ _ _ h => by obtain ⟨h9, -⟩ := h; exact absurd rfl (xA_inr h9).1) (fun r1 f1 n1 hn1 h => ?_)
  obtain ⟨g1, -, bp1, hb1, hG, hF⟩ := h
  obtain ⟨-, g1⟩ := xA_inl g1
  subst g1
  have hm1 := hm.fr (f := f1) (fun a _ _ => hF a (by omega) (by omega) (by omega))
  have ho3 := hF 153 (by omega) (by omega) (by omega)
  have ho4 := hF 154 (by omega) (by omega) (by omega)
  refine aw_aload_n dL_law_958 rfl rfl ?_
  have hq_m := m_friction (l := l) (G := G) (n := n1) (f := f1) (o := 144) (I := I) (A := A) hR.1 hB
  rw [hm1.self] at hq_m
  refine aw_cP (as := []) (rest := [Value.int (nI (s.1 1))]) (MV.c mV_X11_friction) (RQ.pg (q := (0, s.1 1)) hR hq_m) ml_L_203 (RC.w hm1.obj rfl) dL_law_959 rfl rfl (by decide) (Nat.le_of_ble_eq_true rfl) ⟨by omega, by omega⟩ (fun _ _ _ h => by cases h.1) (fun r2 f2 n2 hn2 h => ?_)
  obtain ⟨g1, g2, I2, A2, hf2, hR2, h12⟩ := h
  cases g1
  have g2 := g2.symm
  subst g2
  have hm2 : mAt f2 144 I2 A2 := by rw [hf2]; exact mAt.new
  have hE2 : ∀ a, (a < 144 ∨ 153 ≤ a) → f2 a = f1 a := fun a h => by rw [hf2]; exact rU_out (by omega)
  have hG2 := hG.fr (f := f2) (fun a _ _ => hE2 a (by omega)) (hE2 bp1 (by omega)) (Nat.le_refl _)
  refine aw_icmp_eq (tgt := 2549) dL_law_962 (by decide) (fun c_1 => ?_) (fun c_1 => by exfalso; exact c_1 rfl)
  refine aw_sub [(5, .int (nI (3 * t))), (4, .ref 154), (3, .ref 153), (2, .ref 144), (1, .ref 31), (0, .ref 0)] (by simp) ?_
  exact hgo f2 bp1 n1 (s) _ _ ⟨hG2, ⟨I2, A2, hm2, hR2⟩, ⟨o, (hE2 153 (by omega)).trans (ho3.trans hl)⟩, ⟨od, (hE2 154 (by omega)).trans (ho4.trans hd)⟩, by omega, by omega⟩ (hSB.mono (by omega) (by omega)) (by omega) (by omega)
set_option maxHeartbeats 4000000 in
theorem lc_15 {l : Launch} {G : GT} {n0 t : Nat} {hh : List ExceptionTableEntry} {nm : String} (hG9 : gN G ≤ 1536) (ht : 3 * t + 2 < gN G) (ht9 : t < 512) (hgo : LGo l G n0 t hh nm) : LCase l G n0 t hh nm 967 := by
  intro f bp n s nc ns hI hSB hnc hns
  obtain ⟨hW, ⟨I, A, hm, hR⟩, ⟨o, hl⟩, ⟨od, hd⟩, hn155, hbp⟩ := hI
  have hB := hSB.1
  have hc8 := hSB.2.1
  have hK9 : 30500 * t + 30500 < 16000000 := by omega
  obtain ⟨h0, ⟨J, B, hst, hS⟩, -, -, -, ⟨T1, hk1⟩, ⟨T4, hk4⟩, -, ⟨Lc, hcd, hcl, hcx⟩, hox, hbx⟩ := id hW
  have hcm : (qRec s.1 36 (gX G ((3 * t) + 1))).1 ≤ 3 := Nat.le_trans (m := 2) (rec_le _ _ _) (by decide)
  refine aw_aload_n dL_law_967 rfl rfl ?_
  refine aw_aload_n dL_law_968 rfl rfl ?_
  refine aw_iload dL_law_969 rfl ?_
  refine aw_iconst_n 1 dL_law_971 (by decide) ?_
  refine aw_iadd_n dL_law_972 ?_
  refine aw_sald (sc_in (by omega) hG9) dL_law_973 ?_
  rw [nIc (by omega)]
  refine aw_aload_n dL_law_974 rfl rfl ?_
  refine aw_sW (as := [Value.ref 31, Value.int (gX G ((3 * t) + 1)), Value.ref 153]) (rest := []) mW_L_recordOf (w_recordOf (l := l) (G := G) hW hSB hK9 (by omega) (by omega) (by omega) hl (gX G ((3 * t) + 1))) ml_L_204 dL_law_975 rfl rfl (by decide) (Nat.le_of_ble_eq_true rfl) ⟨by omega, by omega⟩ (fun _ _ _ h => by cases h.1) (fun r1 f1 n1 hn1 h => ?_)
  obtain ⟨g1, -, bp1, o1, hb1, hG, hu1, hv1, hF⟩ := h
  cases g1
  have hm1 := hm.fr (f := f1) (fun a _ _ => hF a (by omega) (by omega) (by omega) (by omega))
  have hoth := hF 154 (by omega) (by omega) (by omega) (by omega)
  refine aw_istore (L' := [(6, .int (nI ((qRec s.1 36 (gX G ((3 * t) + 1))).1))), (5, .int (nI (3 * t))), (4, .ref 154), (3, .ref 153), (2, .ref 144), (1, .ref 31), (0, .ref 0)]) dL_law_978 (Nat.le_of_ble_eq_true rfl) rfl ?_
  refine aw_aload_n dL_law_980 rfl rfl ?_
  refine aw_aload_n dL_law_981 rfl rfl ?_
  refine aw_iload dL_law_982 rfl ?_
  refine aw_iconst_n 1 dL_law_984 (by decide) ?_
  refine aw_iadd_n dL_law_985 ?_
  refine aw_sald (sc_in (by omega) hG9) dL_law_986 ?_
  rw [nIc (by omega)]
  have hq_m := m_recordOf (l := l) (G := G) (n := n1) (f := f1) (o := 144) (I := I) (A := A) hR.1 hB (gX G ((3 * t) + 1))
  rw [hm1.self] at hq_m
  refine aw_cP (as := [Value.int (gX G ((3 * t) + 1))]) (rest := []) (MV.c mV_X11_recordOf) (RQ.pg hR hq_m) ml_L_206 (RC.w hm1.obj rfl) dL_law_987 rfl rfl (by decide) (Nat.le_of_ble_eq_true rfl) ⟨by omega, by omega⟩ (fun _ _ _ h => by cases h.1) (fun r2 f2 n2 hn2 h => ?_)
  obtain ⟨g1, g2, I2, A2, hf2, hR2, h12⟩ := h
  cases g1
  have g2 := g2.symm
  subst g2
  have hm2 : mAt f2 144 I2 A2 := by rw [hf2]; exact mAt.new
  have hE2 : ∀ a, (a < 144 ∨ 153 ≤ a) → f2 a = f1 a := fun a h => by rw [hf2]; exact rU_out (by omega)
  have hG2 := hG.fr (f := f2) (fun a _ _ => hE2 a (by omega)) (hE2 bp1 (by omega)) (Nat.le_refl _)
  refine aw_istore (L' := [(7, .int (nI (qRec s.1 36 (gX G ((3 * t) + 1))).2)), (6, .int (nI ((qRec s.1 36 (gX G ((3 * t) + 1))).1))), (5, .int (nI (3 * t))), (4, .ref 154), (3, .ref 153), (2, .ref 144), (1, .ref 31), (0, .ref 0)]) dL_law_990 (Nat.le_of_ble_eq_true rfl) rfl ?_
  refine aw_aload_n dL_law_992 rfl rfl ?_
  have hq_t := m_thrown (l := l) (G := G) (n := n1) (f := f2) (o := 144) (A := A2) h12
  rw [hm2.self] at hq_t
  refine aw_cI (as := []) (rest := []) (MV.c mV_X11_thrown) hq_t ml_L_155 (RC.w hm2.obj rfl) dL_law_993 rfl rfl (by decide) (Nat.le_of_ble_eq_true rfl) ⟨by omega, by omega⟩ ?_
  refine aw_iload dL_law_996 rfl ?_
  refine aw_icmp_eq (tgt := 1003) dL_law_998 (by decide) (fun c_1 => ?_) (fun c_1 => by exfalso; exact c_1 rfl)
  refine aw_iload dL_law_1003 rfl ?_
  refine aw_if_ne (tgt := 1020) dL_law_1005 (by decide) (fun c_2 => ?_) (fun c_2 => ?_)
  · refine aw_goto (tgt := 2549) dL_law_1020 (by decide) ?_
    refine aw_sub [(5, .int (nI (3 * t))), (4, .ref 154), (3, .ref 153), (2, .ref 144), (1, .ref 31), (0, .ref 0)] (by simp) ?_
    exact hgo f2 bp1 n1 (s) _ _ ⟨hG2, ⟨I2, A2, hm2, hR2⟩, ⟨o1, (hE2 153 (by omega)).trans hu1⟩, ⟨od, (hE2 154 (by omega)).trans (hoth.trans hd)⟩, by omega, by omega⟩ (hSB.mono (by omega) (by omega)) (by omega) (by omega)
  · have hc0 := nI_0c hcm c_2
    refine aw_aload_n dL_law_1008 rfl rfl ?_
    refine aw_iconst_n 0 dL_law_1009 (by decide) ?_
    refine aw_lald ((hE2 153 (by omega)).trans hu1) (vp_in_nI (by decide) (by decide)) dL_law_1010 ?_
    rw [nIc (by decide), hv1 hc0]
    refine aw_iload dL_law_1011 rfl ?_
    refine aw_i2l dL_law_1013 ?_
    refine aw_lcmp dL_law_1014 ?_
    refine aw_if_eq (tgt := 1020) dL_law_1015 (by decide) (fun c_3 => ?_) (fun c_3 => by exfalso; exact c_3 (lcmp_same _))
    refine aw_goto (tgt := 2549) dL_law_1020 (by decide) ?_
    refine aw_sub [(5, .int (nI (3 * t))), (4, .ref 154), (3, .ref 153), (2, .ref 144), (1, .ref 31), (0, .ref 0)] (by simp) ?_
    exact hgo f2 bp1 n1 (s) _ _ ⟨hG2, ⟨I2, A2, hm2, hR2⟩, ⟨o1, (hE2 153 (by omega)).trans hu1⟩, ⟨od, (hE2 154 (by omega)).trans (hoth.trans hd)⟩, by omega, by omega⟩ (hSB.mono (by omega) (by omega)) (by omega) (by omega)
set_option maxHeartbeats 4000000 in
theorem lc_16 {l : Launch} {G : GT} {n0 t : Nat} {hh : List ExceptionTableEntry} {nm : String} (hG9 : gN G ≤ 1536) (ht : 3 * t + 2 < gN G) (ht9 : t < 512) (hgo : LGo l G n0 t hh nm) : LCase l G n0 t hh nm 1023 := by
  intro f bp n s nc ns hI hSB hnc hns
  obtain ⟨hW, ⟨I, A, hm, hR⟩, ⟨o, hl⟩, ⟨od, hd⟩, hn155, hbp⟩ := hI
  have hB := hSB.1
  have hc8 := hSB.2.1
  have hK9 : 30500 * t + 30500 < 16000000 := by omega
  obtain ⟨h0, ⟨J, B, hst, hS⟩, -, -, -, ⟨T1, hk1⟩, ⟨T4, hk4⟩, -, ⟨Lc, hcd, hcl, hcx⟩, hox, hbx⟩ := id hW
  have hcm : (qRec s.1 39 (gX G ((3 * t) + 1))).1 ≤ 3 := Nat.le_trans (m := 2) (rec_le _ _ _) (by decide)
  refine aw_aload_n dL_law_1023 rfl rfl ?_
  refine aw_aload_n dL_law_1024 rfl rfl ?_
  refine aw_iload dL_law_1025 rfl ?_
  refine aw_iconst_n 1 dL_law_1027 (by decide) ?_
  refine aw_iadd_n dL_law_1028 ?_
  refine aw_sald (sc_in (by omega) hG9) dL_law_1029 ?_
  rw [nIc (by omega)]
  refine aw_aload_n dL_law_1030 rfl rfl ?_
  refine aw_sW (as := [Value.ref 31, Value.int (gX G ((3 * t) + 1)), Value.ref 153]) (rest := []) mW_L_holderOf (w_holderOf (l := l) (G := G) hW hSB hK9 (by omega) (by omega) (by omega) hl (gX G ((3 * t) + 1))) ml_L_207 dL_law_1031 rfl rfl (by decide) (Nat.le_of_ble_eq_true rfl) ⟨by omega, by omega⟩ (fun _ _ _ h => by cases h.1) (fun r1 f1 n1 hn1 h => ?_)
  obtain ⟨g1, -, bp1, o1, hb1, hG, hu1, hv1, hF⟩ := h
  cases g1
  have hm1 := hm.fr (f := f1) (fun a _ _ => hF a (by omega) (by omega) (by omega) (by omega))
  have hoth := hF 154 (by omega) (by omega) (by omega) (by omega)
  refine aw_istore (L' := [(6, .int (nI ((qRec s.1 39 (gX G ((3 * t) + 1))).1))), (5, .int (nI (3 * t))), (4, .ref 154), (3, .ref 153), (2, .ref 144), (1, .ref 31), (0, .ref 0)]) dL_law_1034 (Nat.le_of_ble_eq_true rfl) rfl ?_
  refine aw_aload_n dL_law_1036 rfl rfl ?_
  refine aw_aload_n dL_law_1037 rfl rfl ?_
  refine aw_iload dL_law_1038 rfl ?_
  refine aw_iconst_n 1 dL_law_1040 (by decide) ?_
  refine aw_iadd_n dL_law_1041 ?_
  refine aw_sald (sc_in (by omega) hG9) dL_law_1042 ?_
  rw [nIc (by omega)]
  have hq_m := m_holderOf (l := l) (G := G) (n := n1) (f := f1) (o := 144) (I := I) (A := A) hR.1 hB (gX G ((3 * t) + 1))
  rw [hm1.self] at hq_m
  refine aw_cP (as := [Value.int (gX G ((3 * t) + 1))]) (rest := []) (MV.c mV_X11_holderOf) (RQ.pg hR hq_m) ml_L_209 (RC.w hm1.obj rfl) dL_law_1043 rfl rfl (by decide) (Nat.le_of_ble_eq_true rfl) ⟨by omega, by omega⟩ (fun _ _ _ h => by cases h.1) (fun r2 f2 n2 hn2 h => ?_)
  obtain ⟨g1, g2, I2, A2, hf2, hR2, h12⟩ := h
  cases g1
  have g2 := g2.symm
  subst g2
  have hm2 : mAt f2 144 I2 A2 := by rw [hf2]; exact mAt.new
  have hE2 : ∀ a, (a < 144 ∨ 153 ≤ a) → f2 a = f1 a := fun a h => by rw [hf2]; exact rU_out (by omega)
  have hG2 := hG.fr (f := f2) (fun a _ _ => hE2 a (by omega)) (hE2 bp1 (by omega)) (Nat.le_refl _)
  refine aw_istore (L' := [(7, .int (nI (qRec s.1 39 (gX G ((3 * t) + 1))).2)), (6, .int (nI ((qRec s.1 39 (gX G ((3 * t) + 1))).1))), (5, .int (nI (3 * t))), (4, .ref 154), (3, .ref 153), (2, .ref 144), (1, .ref 31), (0, .ref 0)]) dL_law_1046 (Nat.le_of_ble_eq_true rfl) rfl ?_
  refine aw_aload_n dL_law_1048 rfl rfl ?_
  have hq_t := m_thrown (l := l) (G := G) (n := n1) (f := f2) (o := 144) (A := A2) h12
  rw [hm2.self] at hq_t
  refine aw_cI (as := []) (rest := []) (MV.c mV_X11_thrown) hq_t ml_L_155 (RC.w hm2.obj rfl) dL_law_1049 rfl rfl (by decide) (Nat.le_of_ble_eq_true rfl) ⟨by omega, by omega⟩ ?_
  refine aw_iload dL_law_1052 rfl ?_
  refine aw_icmp_eq (tgt := 1059) dL_law_1054 (by decide) (fun c_1 => ?_) (fun c_1 => by exfalso; exact c_1 rfl)
  refine aw_iload dL_law_1059 rfl ?_
  refine aw_if_ne (tgt := 1076) dL_law_1061 (by decide) (fun c_2 => ?_) (fun c_2 => ?_)
  · refine aw_goto (tgt := 2549) dL_law_1076 (by decide) ?_
    refine aw_sub [(5, .int (nI (3 * t))), (4, .ref 154), (3, .ref 153), (2, .ref 144), (1, .ref 31), (0, .ref 0)] (by simp) ?_
    exact hgo f2 bp1 n1 (s) _ _ ⟨hG2, ⟨I2, A2, hm2, hR2⟩, ⟨o1, (hE2 153 (by omega)).trans hu1⟩, ⟨od, (hE2 154 (by omega)).trans (hoth.trans hd)⟩, by omega, by omega⟩ (hSB.mono (by omega) (by omega)) (by omega) (by omega)
  · have hc0 := nI_0c hcm c_2
    refine aw_aload_n dL_law_1064 rfl rfl ?_
    refine aw_iconst_n 0 dL_law_1065 (by decide) ?_
    refine aw_lald ((hE2 153 (by omega)).trans hu1) (vp_in_nI (by decide) (by decide)) dL_law_1066 ?_
    rw [nIc (by decide), hv1 hc0]
    refine aw_iload dL_law_1067 rfl ?_
    refine aw_i2l dL_law_1069 ?_
    refine aw_lcmp dL_law_1070 ?_
    refine aw_if_eq (tgt := 1076) dL_law_1071 (by decide) (fun c_3 => ?_) (fun c_3 => by exfalso; exact c_3 (lcmp_same _))
    refine aw_goto (tgt := 2549) dL_law_1076 (by decide) ?_
    refine aw_sub [(5, .int (nI (3 * t))), (4, .ref 154), (3, .ref 153), (2, .ref 144), (1, .ref 31), (0, .ref 0)] (by simp) ?_
    exact hgo f2 bp1 n1 (s) _ _ ⟨hG2, ⟨I2, A2, hm2, hR2⟩, ⟨o1, (hE2 153 (by omega)).trans hu1⟩, ⟨od, (hE2 154 (by omega)).trans (hoth.trans hd)⟩, by omega, by omega⟩ (hSB.mono (by omega) (by omega)) (by omega) (by omega)
set_option maxHeartbeats 4000000 in
theorem lc_17 {l : Launch} {G : GT} {n0 t : Nat} {hh : List ExceptionTableEntry} {nm : String} (hG9 : gN G ≤ 1536) (ht : 3 * t + 2 < gN G) (ht9 : t < 512) (hgo : LGo l G n0 t hh nm) : LCase l G n0 t hh nm 1079 := by
  intro f bp n s nc ns hI hSB hnc hns
  obtain ⟨hW, ⟨I, A, hm, hR⟩, ⟨o, hl⟩, ⟨od, hd⟩, hn155, hbp⟩ := hI
  have hB := hSB.1
  have hc8 := hSB.2.1
  have hK9 : 30500 * t + 30500 < 16000000 := by omega
  obtain ⟨h0, ⟨J, B, hst, hS⟩, -, -, -, ⟨T1, hk1⟩, ⟨T4, hk4⟩, -, ⟨Lc, hcd, hcl, hcx⟩, hox, hbx⟩ := id hW
  have hcm : (qRank s.1 (gX G ((3 * t) + 1))).1 ≤ 3 := Nat.le_trans (m := 1) (qrank_le _ _) (by decide)
  refine aw_aload_n dL_law_1079 rfl rfl ?_
  refine aw_aload_n dL_law_1080 rfl rfl ?_
  refine aw_iload dL_law_1081 rfl ?_
  refine aw_iconst_n 1 dL_law_1083 (by decide) ?_
  refine aw_iadd_n dL_law_1084 ?_
  refine aw_sald (sc_in (by omega) hG9) dL_law_1085 ?_
  rw [nIc (by omega)]
  refine aw_aload_n dL_law_1086 rfl rfl ?_
  refine aw_sW (as := [Value.ref 31, Value.int (gX G ((3 * t) + 1)), Value.ref 153]) (rest := []) mW_L_pendulumAtRank (w_pendulumAtRank (l := l) (G := G) hW hSB hK9 (by omega) (by omega) (by omega) hl (gX G ((3 * t) + 1))) ml_L_210 dL_law_1087 rfl rfl (by decide) (Nat.le_of_ble_eq_true rfl) ⟨by omega, by omega⟩ (fun _ _ _ h => by cases h.1) (fun r1 f1 n1 hn1 h => ?_)
  obtain ⟨g1, -, bp1, o1, hb1, hG, hu1, hv1, hF⟩ := h
  cases g1
  have hm1 := hm.fr (f := f1) (fun a _ _ => hF a (by omega) (by omega) (by omega) (by omega))
  have hoth := hF 154 (by omega) (by omega) (by omega) (by omega)
  refine aw_istore (L' := [(6, .int (nI ((qRank s.1 (gX G ((3 * t) + 1))).1))), (5, .int (nI (3 * t))), (4, .ref 154), (3, .ref 153), (2, .ref 144), (1, .ref 31), (0, .ref 0)]) dL_law_1090 (Nat.le_of_ble_eq_true rfl) rfl ?_
  refine aw_aload_n dL_law_1092 rfl rfl ?_
  refine aw_aload_n dL_law_1093 rfl rfl ?_
  refine aw_iload dL_law_1094 rfl ?_
  refine aw_iconst_n 1 dL_law_1096 (by decide) ?_
  refine aw_iadd_n dL_law_1097 ?_
  refine aw_sald (sc_in (by omega) hG9) dL_law_1098 ?_
  rw [nIc (by omega)]
  have hq_m := m_pendulumAtRank (l := l) (G := G) (n := n1) (f := f1) (o := 144) (I := I) (A := A) hR.1 hB (gX G ((3 * t) + 1))
  rw [hm1.self] at hq_m
  refine aw_cP (as := [Value.int (gX G ((3 * t) + 1))]) (rest := []) (MV.c mV_X11_pendulumAtRank) (RQ.pg hR hq_m) ml_L_212 (RC.w hm1.obj rfl) dL_law_1099 rfl rfl (by decide) (Nat.le_of_ble_eq_true rfl) ⟨by omega, by omega⟩ (fun _ _ _ h => by cases h.1) (fun r2 f2 n2 hn2 h => ?_)
  obtain ⟨g1, g2, I2, A2, hf2, hR2, h12⟩ := h
  cases g1
  have g2 := g2.symm
  subst g2
  have hm2 : mAt f2 144 I2 A2 := by rw [hf2]; exact mAt.new
  have hE2 : ∀ a, (a < 144 ∨ 153 ≤ a) → f2 a = f1 a := fun a h => by rw [hf2]; exact rU_out (by omega)
  have hG2 := hG.fr (f := f2) (fun a _ _ => hE2 a (by omega)) (hE2 bp1 (by omega)) (Nat.le_refl _)
  refine aw_istore (L' := [(7, .int (nI (qRank s.1 (gX G ((3 * t) + 1))).2)), (6, .int (nI ((qRank s.1 (gX G ((3 * t) + 1))).1))), (5, .int (nI (3 * t))), (4, .ref 154), (3, .ref 153), (2, .ref 144), (1, .ref 31), (0, .ref 0)]) dL_law_1102 (Nat.le_of_ble_eq_true rfl) rfl ?_
  refine aw_aload_n dL_law_1104 rfl rfl ?_
  have hq_t := m_thrown (l := l) (G := G) (n := n1) (f := f2) (o := 144) (A := A2) h12
  rw [hm2.self] at hq_t
  refine aw_cI (as := []) (rest := []) (MV.c mV_X11_thrown) hq_t ml_L_155 (RC.w hm2.obj rfl) dL_law_1105 rfl rfl (by decide) (Nat.le_of_ble_eq_true rfl) ⟨by omega, by omega⟩ ?_
  refine aw_iload dL_law_1108 rfl ?_
  refine aw_icmp_eq (tgt := 1115) dL_law_1110 (by decide) (fun c_1 => ?_) (fun c_1 => by exfalso; exact c_1 rfl)
  refine aw_iload dL_law_1115 rfl ?_
  refine aw_if_ne (tgt := 1132) dL_law_1117 (by decide) (fun c_2 => ?_) (fun c_2 => ?_)
  · refine aw_goto (tgt := 2549) dL_law_1132 (by decide) ?_
    refine aw_sub [(5, .int (nI (3 * t))), (4, .ref 154), (3, .ref 153), (2, .ref 144), (1, .ref 31), (0, .ref 0)] (by simp) ?_
    exact hgo f2 bp1 n1 (s) _ _ ⟨hG2, ⟨I2, A2, hm2, hR2⟩, ⟨o1, (hE2 153 (by omega)).trans hu1⟩, ⟨od, (hE2 154 (by omega)).trans (hoth.trans hd)⟩, by omega, by omega⟩ (hSB.mono (by omega) (by omega)) (by omega) (by omega)
  · have hc0 := nI_0c hcm c_2
    refine aw_aload_n dL_law_1120 rfl rfl ?_
    refine aw_iconst_n 0 dL_law_1121 (by decide) ?_
    refine aw_lald ((hE2 153 (by omega)).trans hu1) (vp_in_nI (by decide) (by decide)) dL_law_1122 ?_
    rw [nIc (by decide), hv1 hc0]
    refine aw_iload dL_law_1123 rfl ?_
    refine aw_i2l dL_law_1125 ?_
    refine aw_lcmp dL_law_1126 ?_
    refine aw_if_eq (tgt := 1132) dL_law_1127 (by decide) (fun c_3 => ?_) (fun c_3 => by exfalso; exact c_3 (lcmp_same _))
    refine aw_goto (tgt := 2549) dL_law_1132 (by decide) ?_
    refine aw_sub [(5, .int (nI (3 * t))), (4, .ref 154), (3, .ref 153), (2, .ref 144), (1, .ref 31), (0, .ref 0)] (by simp) ?_
    exact hgo f2 bp1 n1 (s) _ _ ⟨hG2, ⟨I2, A2, hm2, hR2⟩, ⟨o1, (hE2 153 (by omega)).trans hu1⟩, ⟨od, (hE2 154 (by omega)).trans (hoth.trans hd)⟩, by omega, by omega⟩ (hSB.mono (by omega) (by omega)) (by omega) (by omega)
set_option maxHeartbeats 4000000 in
theorem lc_18 {l : Launch} {G : GT} {n0 t : Nat} {hh : List ExceptionTableEntry} {nm : String} (hG9 : gN G ≤ 1536) (ht : 3 * t + 2 < gN G) (ht9 : t < 512) (hgo : LGo l G n0 t hh nm) : LCase l G n0 t hh nm 1135 := by
  intro f bp n s nc ns hI hSB hnc hns
  obtain ⟨hW, ⟨I, A, hm, hR⟩, ⟨o, hl⟩, ⟨od, hd⟩, hn155, hbp⟩ := hI
  have hB := hSB.1
  have hc8 := hSB.2.1
  have hK9 : 30500 * t + 30500 < 16000000 := by omega
  obtain ⟨h0, ⟨J, B, hst, hS⟩, -, -, -, ⟨T1, hk1⟩, ⟨T4, hk4⟩, -, ⟨Lc, hcd, hcl, hcx⟩, hox, hbx⟩ := id hW
  have hcm : (qLeft s.1 (gX G ((3 * t) + 1))).1 ≤ 3 := Nat.le_trans (m := 1) (by unfold qLeft; (repeat' split) <;> exact Nat.le_of_ble_eq_true rfl) (by decide)
  refine aw_aload_n dL_law_1135 rfl rfl ?_
  refine aw_aload_n dL_law_1136 rfl rfl ?_
  refine aw_iload dL_law_1137 rfl ?_
  refine aw_iconst_n 1 dL_law_1139 (by decide) ?_
  refine aw_iadd_n dL_law_1140 ?_
  refine aw_sald (sc_in (by omega) hG9) dL_law_1141 ?_
  rw [nIc (by omega)]
  refine aw_aload_n dL_law_1142 rfl rfl ?_
  refine aw_sW (as := [Value.ref 31, Value.int (gX G ((3 * t) + 1)), Value.ref 153]) (rest := []) mW_L_swingsToRest (w_swingsToRest (l := l) (G := G) hW hSB hK9 (by omega) (by omega) (by omega) hl (gX G ((3 * t) + 1))) ml_L_213 dL_law_1143 rfl rfl (by decide) (Nat.le_of_ble_eq_true rfl) ⟨by omega, by omega⟩ (fun _ _ _ h => by cases h.1) (fun r1 f1 n1 hn1 h => ?_)
  obtain ⟨g1, -, bp1, o1, hb1, hG, hu1, hv1, hF⟩ := h
  cases g1
  have hm1 := hm.fr (f := f1) (fun a _ _ => hF a (by omega) (by omega) (by omega) (by omega))
  have hoth := hF 154 (by omega) (by omega) (by omega) (by omega)
  refine aw_istore (L' := [(6, .int (nI ((qLeft s.1 (gX G ((3 * t) + 1))).1))), (5, .int (nI (3 * t))), (4, .ref 154), (3, .ref 153), (2, .ref 144), (1, .ref 31), (0, .ref 0)]) dL_law_1146 (Nat.le_of_ble_eq_true rfl) rfl ?_
  refine aw_aload_n dL_law_1148 rfl rfl ?_
  refine aw_aload_n dL_law_1149 rfl rfl ?_
  refine aw_iload dL_law_1150 rfl ?_
  refine aw_iconst_n 1 dL_law_1152 (by decide) ?_
  refine aw_iadd_n dL_law_1153 ?_
  refine aw_sald (sc_in (by omega) hG9) dL_law_1154 ?_
  rw [nIc (by omega)]
  have hq_m := m_swingsToRest (l := l) (G := G) (n := n1) (f := f1) (o := 144) (I := I) (A := A) hR.1 hB (gX G ((3 * t) + 1))
  rw [hm1.self] at hq_m
  refine aw_cP (as := [Value.int (gX G ((3 * t) + 1))]) (rest := []) (MV.c mV_X11_swingsToRest) (RQ.pg hR hq_m) ml_L_215 (RC.w hm1.obj rfl) dL_law_1155 rfl rfl (by decide) (Nat.le_of_ble_eq_true rfl) ⟨by omega, by omega⟩ (fun _ _ _ h => by cases h.1) (fun r2 f2 n2 hn2 h => ?_)
  obtain ⟨g1, g2, I2, A2, hf2, hR2, h12⟩ := h
  cases g1
  have g2 := g2.symm
  subst g2
  have hm2 : mAt f2 144 I2 A2 := by rw [hf2]; exact mAt.new
  have hE2 : ∀ a, (a < 144 ∨ 153 ≤ a) → f2 a = f1 a := fun a h => by rw [hf2]; exact rU_out (by omega)
  have hG2 := hG.fr (f := f2) (fun a _ _ => hE2 a (by omega)) (hE2 bp1 (by omega)) (Nat.le_refl _)
  refine aw_istore (L' := [(7, .int (nI (qLeft s.1 (gX G ((3 * t) + 1))).2)), (6, .int (nI ((qLeft s.1 (gX G ((3 * t) + 1))).1))), (5, .int (nI (3 * t))), (4, .ref 154), (3, .ref 153), (2, .ref 144), (1, .ref 31), (0, .ref 0)]) dL_law_1158 (Nat.le_of_ble_eq_true rfl) rfl ?_
  refine aw_aload_n dL_law_1160 rfl rfl ?_
  have hq_t := m_thrown (l := l) (G := G) (n := n1) (f := f2) (o := 144) (A := A2) h12
  rw [hm2.self] at hq_t
  refine aw_cI (as := []) (rest := []) (MV.c mV_X11_thrown) hq_t ml_L_155 (RC.w hm2.obj rfl) dL_law_1161 rfl rfl (by decide) (Nat.le_of_ble_eq_true rfl) ⟨by omega, by omega⟩ ?_
  refine aw_iload dL_law_1164 rfl ?_
  refine aw_icmp_eq (tgt := 1171) dL_law_1166 (by decide) (fun c_1 => ?_) (fun c_1 => by exfalso; exact c_1 rfl)
  refine aw_iload dL_law_1171 rfl ?_
  refine aw_if_ne (tgt := 1188) dL_law_1173 (by decide) (fun c_2 => ?_) (fun c_2 => ?_)
  · refine aw_goto (tgt := 2549) dL_law_1188 (by decide) ?_
    refine aw_sub [(5, .int (nI (3 * t))), (4, .ref 154), (3, .ref 153), (2, .ref 144), (1, .ref 31), (0, .ref 0)] (by simp) ?_
    exact hgo f2 bp1 n1 (s) _ _ ⟨hG2, ⟨I2, A2, hm2, hR2⟩, ⟨o1, (hE2 153 (by omega)).trans hu1⟩, ⟨od, (hE2 154 (by omega)).trans (hoth.trans hd)⟩, by omega, by omega⟩ (hSB.mono (by omega) (by omega)) (by omega) (by omega)
  · have hc0 := nI_0c hcm c_2
    refine aw_aload_n dL_law_1176 rfl rfl ?_
    refine aw_iconst_n 0 dL_law_1177 (by decide) ?_
    refine aw_lald ((hE2 153 (by omega)).trans hu1) (vp_in_nI (by decide) (by decide)) dL_law_1178 ?_
    rw [nIc (by decide), hv1 hc0]
    refine aw_iload dL_law_1179 rfl ?_
    refine aw_i2l dL_law_1181 ?_
    refine aw_lcmp dL_law_1182 ?_
    refine aw_if_eq (tgt := 1188) dL_law_1183 (by decide) (fun c_3 => ?_) (fun c_3 => by exfalso; exact c_3 (lcmp_same _))
    refine aw_goto (tgt := 2549) dL_law_1188 (by decide) ?_
    refine aw_sub [(5, .int (nI (3 * t))), (4, .ref 154), (3, .ref 153), (2, .ref 144), (1, .ref 31), (0, .ref 0)] (by simp) ?_
    exact hgo f2 bp1 n1 (s) _ _ ⟨hG2, ⟨I2, A2, hm2, hR2⟩, ⟨o1, (hE2 153 (by omega)).trans hu1⟩, ⟨od, (hE2 154 (by omega)).trans (hoth.trans hd)⟩, by omega, by omega⟩ (hSB.mono (by omega) (by omega)) (by omega) (by omega)
set_option maxHeartbeats 4000000 in
theorem lc_19 {l : Launch} {G : GT} {n0 t : Nat} {hh : List ExceptionTableEntry} {nm : String} (hG9 : gN G ≤ 1536) (ht : 3 * t + 2 < gN G) (ht9 : t < 512) (hgo : LGo l G n0 t hh nm) : LCase l G n0 t hh nm 1191 := by
  intro f bp n s nc ns hI hSB hnc hns
  obtain ⟨hW, ⟨I, A, hm, hR⟩, ⟨o, hl⟩, ⟨od, hd⟩, hn155, hbp⟩ := hI
  have hB := hSB.1
  have hc8 := hSB.2.1
  have hK9 : 30500 * t + 30500 < 16000000 := by omega
  obtain ⟨h0, ⟨J, B, hst, hS⟩, -, -, -, ⟨T1, hk1⟩, ⟨T4, hk4⟩, -, ⟨Lc, hcd, hcl, hcx⟩, hox, hbx⟩ := id hW
  have hcm : (qLeft s.1 (gX G ((3 * t) + 1))).1 ≤ 3 := Nat.le_trans (m := 1) (by unfold qLeft; (repeat' split) <;> exact Nat.le_of_ble_eq_true rfl) (by decide)
  refine aw_aload_n dL_law_1191 rfl rfl ?_
  refine aw_aload_n dL_law_1192 rfl rfl ?_
  refine aw_iload dL_law_1193 rfl ?_
  refine aw_iconst_n 1 dL_law_1195 (by decide) ?_
  refine aw_iadd_n dL_law_1196 ?_
  refine aw_sald (sc_in (by omega) hG9) dL_law_1197 ?_
  rw [nIc (by omega)]
  refine aw_aload_n dL_law_1198 rfl rfl ?_
  refine aw_sW (as := [Value.ref 31, Value.int (gX G ((3 * t) + 1)), Value.ref 153]) (rest := []) mW_L_swingsToRestByTable (w_swingsToRestByTable (l := l) (G := G) hW hSB hK9 (by omega) (by omega) (by omega) hl (gX G ((3 * t) + 1))) ml_L_216 dL_law_1199 rfl rfl (by decide) (Nat.le_of_ble_eq_true rfl) ⟨by omega, by omega⟩ (fun _ _ _ h => by cases h.1) (fun r1 f1 n1 hn1 h => ?_)
  obtain ⟨g1, -, bp1, o1, hb1, hG, hu1, hv1, hF⟩ := h
  cases g1
  have hm1 := hm.fr (f := f1) (fun a _ _ => hF a (by omega) (by omega) (by omega) (by omega))
  have hoth := hF 154 (by omega) (by omega) (by omega) (by omega)
  refine aw_istore (L' := [(6, .int (nI ((qLeft s.1 (gX G ((3 * t) + 1))).1))), (5, .int (nI (3 * t))), (4, .ref 154), (3, .ref 153), (2, .ref 144), (1, .ref 31), (0, .ref 0)]) dL_law_1202 (Nat.le_of_ble_eq_true rfl) rfl ?_
  refine aw_aload_n dL_law_1204 rfl rfl ?_
  refine aw_aload_n dL_law_1205 rfl rfl ?_
  refine aw_iload dL_law_1206 rfl ?_
  refine aw_iconst_n 1 dL_law_1208 (by decide) ?_
  refine aw_iadd_n dL_law_1209 ?_
  refine aw_sald (sc_in (by omega) hG9) dL_law_1210 ?_
  rw [nIc (by omega)]
  have hq_m := m_swingsToRestByTable (l := l) (G := G) (n := n1) (f := f1) (o := 144) (I := I) (A := A) hR.1 hB (gX G ((3 * t) + 1))
  rw [hm1.self] at hq_m
  refine aw_cP (as := [Value.int (gX G ((3 * t) + 1))]) (rest := []) (MV.c mV_X11_swingsToRestByTable) (RQ.pg hR hq_m) ml_L_218 (RC.w hm1.obj rfl) dL_law_1211 rfl rfl (by decide) (Nat.le_of_ble_eq_true rfl) ⟨by omega, by omega⟩ (fun _ _ _ h => by cases h.1) (fun r2 f2 n2 hn2 h => ?_)
  obtain ⟨g1, g2, I2, A2, hf2, hR2, h12⟩ := h
  cases g1
  have g2 := g2.symm
  subst g2
  have hm2 : mAt f2 144 I2 A2 := by rw [hf2]; exact mAt.new
  have hE2 : ∀ a, (a < 144 ∨ 153 ≤ a) → f2 a = f1 a := fun a h => by rw [hf2]; exact rU_out (by omega)
  have hG2 := hG.fr (f := f2) (fun a _ _ => hE2 a (by omega)) (hE2 bp1 (by omega)) (Nat.le_refl _)
  refine aw_istore (L' := [(7, .int (nI (qLeft s.1 (gX G ((3 * t) + 1))).2)), (6, .int (nI ((qLeft s.1 (gX G ((3 * t) + 1))).1))), (5, .int (nI (3 * t))), (4, .ref 154), (3, .ref 153), (2, .ref 144), (1, .ref 31), (0, .ref 0)]) dL_law_1214 (Nat.le_of_ble_eq_true rfl) rfl ?_
  refine aw_aload_n dL_law_1216 rfl rfl ?_
  have hq_t := m_thrown (l := l) (G := G) (n := n1) (f := f2) (o := 144) (A := A2) h12
  rw [hm2.self] at hq_t
  refine aw_cI (as := []) (rest := []) (MV.c mV_X11_thrown) hq_t ml_L_155 (RC.w hm2.obj rfl) dL_law_1217 rfl rfl (by decide) (Nat.le_of_ble_eq_true rfl) ⟨by omega, by omega⟩ ?_
  refine aw_iload dL_law_1220 rfl ?_
  refine aw_icmp_eq (tgt := 1227) dL_law_1222 (by decide) (fun c_1 => ?_) (fun c_1 => by exfalso; exact c_1 rfl)
  refine aw_iload dL_law_1227 rfl ?_
  refine aw_if_ne (tgt := 1244) dL_law_1229 (by decide) (fun c_2 => ?_) (fun c_2 => ?_)
  · refine aw_goto (tgt := 2549) dL_law_1244 (by decide) ?_
    refine aw_sub [(5, .int (nI (3 * t))), (4, .ref 154), (3, .ref 153), (2, .ref 144), (1, .ref 31), (0, .ref 0)] (by simp) ?_
    exact hgo f2 bp1 n1 (s) _ _ ⟨hG2, ⟨I2, A2, hm2, hR2⟩, ⟨o1, (hE2 153 (by omega)).trans hu1⟩, ⟨od, (hE2 154 (by omega)).trans (hoth.trans hd)⟩, by omega, by omega⟩ (hSB.mono (by omega) (by omega)) (by omega) (by omega)
  · have hc0 := nI_0c hcm c_2
    refine aw_aload_n dL_law_1232 rfl rfl ?_
    refine aw_iconst_n 0 dL_law_1233 (by decide) ?_
    refine aw_lald ((hE2 153 (by omega)).trans hu1) (vp_in_nI (by decide) (by decide)) dL_law_1234 ?_
    rw [nIc (by decide), hv1 hc0]
    refine aw_iload dL_law_1235 rfl ?_
    refine aw_i2l dL_law_1237 ?_
    refine aw_lcmp dL_law_1238 ?_
    refine aw_if_eq (tgt := 1244) dL_law_1239 (by decide) (fun c_3 => ?_) (fun c_3 => by exfalso; exact c_3 (lcmp_same _))
    refine aw_goto (tgt := 2549) dL_law_1244 (by decide) ?_
    refine aw_sub [(5, .int (nI (3 * t))), (4, .ref 154), (3, .ref 153), (2, .ref 144), (1, .ref 31), (0, .ref 0)] (by simp) ?_
    exact hgo f2 bp1 n1 (s) _ _ ⟨hG2, ⟨I2, A2, hm2, hR2⟩, ⟨o1, (hE2 153 (by omega)).trans hu1⟩, ⟨od, (hE2 154 (by omega)).trans (hoth.trans hd)⟩, by omega, by omega⟩ (hSB.mono (by omega) (by omega)) (by omega) (by omega)
set_option maxHeartbeats 4000000 in
theorem lc_20 {l : Launch} {G : GT} {n0 t : Nat} {hh : List ExceptionTableEntry} {nm : String} (hG9 : gN G ≤ 1536) (ht : 3 * t + 2 < gN G) (ht9 : t < 512) (hgo : LGo l G n0 t hh nm) : LCase l G n0 t hh nm 1247 := by
  intro f bp n s nc ns hI hSB hnc hns
  obtain ⟨hW, ⟨I, A, hm, hR⟩, ⟨o, hl⟩, ⟨od, hd⟩, hn155, hbp⟩ := hI
  have hB := hSB.1
  have hc8 := hSB.2.1
  have hK9 : 30500 * t + 30500 < 16000000 := by omega
  obtain ⟨h0, ⟨J, B, hst, hS⟩, -, -, -, ⟨T1, hk1⟩, ⟨T4, hk4⟩, -, ⟨Lc, hcd, hcl, hcx⟩, hox, hbx⟩ := id hW
  have hcm : (qRest s.1 (gX G ((3 * t) + 1))).1 ≤ 3 := Nat.le_trans (m := 2) (by unfold qRest; (repeat' split) <;> exact Nat.le_of_ble_eq_true rfl) (by decide)
  refine aw_aload_n dL_law_1247 rfl rfl ?_
  refine aw_aload_n dL_law_1248 rfl rfl ?_
  refine aw_iload dL_law_1249 rfl ?_
  refine aw_iconst_n 1 dL_law_1251 (by decide) ?_
  refine aw_iadd_n dL_law_1252 ?_
  refine aw_sald (sc_in (by omega) hG9) dL_law_1253 ?_
  rw [nIc (by omega)]
  refine aw_aload_n dL_law_1254 rfl rfl ?_
  refine aw_sW (as := [Value.ref 31, Value.int (gX G ((3 * t) + 1)), Value.ref 153]) (rest := []) mW_L_restTick (w_restTick (l := l) (G := G) hW hSB hK9 (by omega) (by omega) (by omega) hl (gX G ((3 * t) + 1))) ml_L_219 dL_law_1255 rfl rfl (by decide) (Nat.le_of_ble_eq_true rfl) ⟨by omega, by omega⟩ (fun _ _ _ h => by cases h.1) (fun r1 f1 n1 hn1 h => ?_)
  obtain ⟨g1, -, bp1, o1, hb1, hG, hu1, hv1, hF⟩ := h
  cases g1
  have hm1 := hm.fr (f := f1) (fun a _ _ => hF a (by omega) (by omega) (by omega) (by omega))
  have hoth := hF 154 (by omega) (by omega) (by omega) (by omega)
  refine aw_istore (L' := [(6, .int (nI ((qRest s.1 (gX G ((3 * t) + 1))).1))), (5, .int (nI (3 * t))), (4, .ref 154), (3, .ref 153), (2, .ref 144), (1, .ref 31), (0, .ref 0)]) dL_law_1258 (Nat.le_of_ble_eq_true rfl) rfl ?_
  refine aw_aload_n dL_law_1260 rfl rfl ?_
  refine aw_aload_n dL_law_1261 rfl rfl ?_
  refine aw_iload dL_law_1262 rfl ?_
  refine aw_iconst_n 1 dL_law_1264 (by decide) ?_
  refine aw_iadd_n dL_law_1265 ?_
  refine aw_sald (sc_in (by omega) hG9) dL_law_1266 ?_
  rw [nIc (by omega)]
  have hq_m := m_restTick (l := l) (G := G) (n := n1) (f := f1) (o := 144) (I := I) (A := A) hR.1 hB (gX G ((3 * t) + 1))
  rw [hm1.self] at hq_m
  refine aw_cP (as := [Value.int (gX G ((3 * t) + 1))]) (rest := []) (MV.c mV_X11_restTick) (RQ.pg hR hq_m) ml_L_221 (RC.w hm1.obj rfl) dL_law_1267 rfl rfl (by decide) (Nat.le_of_ble_eq_true rfl) ⟨by omega, by omega⟩ (fun _ _ _ h => by cases h.1) (fun r2 f2 n2 hn2 h => ?_)
  obtain ⟨g1, g2, I2, A2, hf2, hR2, h12⟩ := h
  cases g1
  have g2 := g2.symm
  subst g2
  have hm2 : mAt f2 144 I2 A2 := by rw [hf2]; exact mAt.new
  have hE2 : ∀ a, (a < 144 ∨ 153 ≤ a) → f2 a = f1 a := fun a h => by rw [hf2]; exact rU_out (by omega)
  have hG2 := hG.fr (f := f2) (fun a _ _ => hE2 a (by omega)) (hE2 bp1 (by omega)) (Nat.le_refl _)
  refine aw_istore (L' := [(7, .int (nI (qRest s.1 (gX G ((3 * t) + 1))).2)), (6, .int (nI ((qRest s.1 (gX G ((3 * t) + 1))).1))), (5, .int (nI (3 * t))), (4, .ref 154), (3, .ref 153), (2, .ref 144), (1, .ref 31), (0, .ref 0)]) dL_law_1270 (Nat.le_of_ble_eq_true rfl) rfl ?_
  refine aw_aload_n dL_law_1272 rfl rfl ?_
  have hq_t := m_thrown (l := l) (G := G) (n := n1) (f := f2) (o := 144) (A := A2) h12
  rw [hm2.self] at hq_t
  refine aw_cI (as := []) (rest := []) (MV.c mV_X11_thrown) hq_t ml_L_155 (RC.w hm2.obj rfl) dL_law_1273 rfl rfl (by decide) (Nat.le_of_ble_eq_true rfl) ⟨by omega, by omega⟩ ?_
  refine aw_iload dL_law_1276 rfl ?_
  refine aw_icmp_eq (tgt := 1283) dL_law_1278 (by decide) (fun c_1 => ?_) (fun c_1 => by exfalso; exact c_1 rfl)
  refine aw_iload dL_law_1283 rfl ?_
  refine aw_if_ne (tgt := 1300) dL_law_1285 (by decide) (fun c_2 => ?_) (fun c_2 => ?_)
  · refine aw_goto (tgt := 2549) dL_law_1300 (by decide) ?_
    refine aw_sub [(5, .int (nI (3 * t))), (4, .ref 154), (3, .ref 153), (2, .ref 144), (1, .ref 31), (0, .ref 0)] (by simp) ?_
    exact hgo f2 bp1 n1 (s) _ _ ⟨hG2, ⟨I2, A2, hm2, hR2⟩, ⟨o1, (hE2 153 (by omega)).trans hu1⟩, ⟨od, (hE2 154 (by omega)).trans (hoth.trans hd)⟩, by omega, by omega⟩ (hSB.mono (by omega) (by omega)) (by omega) (by omega)
  · have hc0 := nI_0c hcm c_2
    refine aw_aload_n dL_law_1288 rfl rfl ?_
    refine aw_iconst_n 0 dL_law_1289 (by decide) ?_
    refine aw_lald ((hE2 153 (by omega)).trans hu1) (vp_in_nI (by decide) (by decide)) dL_law_1290 ?_
    rw [nIc (by decide), hv1 hc0]
    refine aw_iload dL_law_1291 rfl ?_
    refine aw_i2l dL_law_1293 ?_
    refine aw_lcmp dL_law_1294 ?_
    refine aw_if_eq (tgt := 1300) dL_law_1295 (by decide) (fun c_3 => ?_) (fun c_3 => by exfalso; exact c_3 (lcmp_same _))
    refine aw_goto (tgt := 2549) dL_law_1300 (by decide) ?_
    refine aw_sub [(5, .int (nI (3 * t))), (4, .ref 154), (3, .ref 153), (2, .ref 144), (1, .ref 31), (0, .ref 0)] (by simp) ?_
    exact hgo f2 bp1 n1 (s) _ _ ⟨hG2, ⟨I2, A2, hm2, hR2⟩, ⟨o1, (hE2 153 (by omega)).trans hu1⟩, ⟨od, (hE2 154 (by omega)).trans (hoth.trans hd)⟩, by omega, by omega⟩ (hSB.mono (by omega) (by omega)) (by omega) (by omega)
set_option maxHeartbeats 4000000 in
theorem lc_21 {l : Launch} {G : GT} {n0 t : Nat} {hh : List ExceptionTableEntry} {nm : String} (hG9 : gN G ≤ 1536) (ht : 3 * t + 2 < gN G) (ht9 : t < 512) (hgo : LGo l G n0 t hh nm) : LCase l G n0 t hh nm 1303 := by
  intro f bp n s nc ns hI hSB hnc hns
  obtain ⟨hW, ⟨I, A, hm, hR⟩, ⟨o, hl⟩, ⟨od, hd⟩, hn155, hbp⟩ := hI
  have hB := hSB.1
  have hc8 := hSB.2.1
  have hK9 : 30500 * t + 30500 < 16000000 := by omega
  obtain ⟨h0, ⟨J, B, hst, hS⟩, -, -, -, ⟨T1, hk1⟩, ⟨T4, hk4⟩, -, ⟨Lc, hcd, hcl, hcx⟩, hox, hbx⟩ := id hW
  have hcm : (qAfter s.1 (gX G ((3 * t) + 1)) (gX G ((3 * t) + 2))).1 ≤ 3 := Nat.le_trans (m := 2) (by unfold qAfter; (repeat' split) <;> exact Nat.le_of_ble_eq_true rfl) (by decide)
  refine aw_aload_n dL_law_1303 rfl rfl ?_
  refine aw_aload_n dL_law_1304 rfl rfl ?_
  refine aw_iload dL_law_1305 rfl ?_
  refine aw_iconst_n 1 dL_law_1307 (by decide) ?_
  refine aw_iadd_n dL_law_1308 ?_
  refine aw_sald (sc_in (by omega) hG9) dL_law_1309 ?_
  rw [nIc (by omega)]
  refine aw_aload_n dL_law_1310 rfl rfl ?_
  refine aw_iload dL_law_1311 rfl ?_
  refine aw_iconst_n 2 dL_law_1313 (by decide) ?_
  refine aw_iadd_n dL_law_1314 ?_
  refine aw_sald (sc_in (by omega) hG9) dL_law_1315 ?_
  rw [nIc (by omega)]
  refine aw_aload_n dL_law_1316 rfl rfl ?_
  refine aw_sW (as := [Value.ref 31, Value.int (gX G ((3 * t) + 1)), Value.int (gX G ((3 * t) + 2)), Value.ref 153]) (rest := []) mW_L_amplitudeAfter (w_amplitudeAfter (l := l) (G := G) hW hSB hK9 (by omega) (by omega) (by omega) hl (gX G ((3 * t) + 1)) (gX G ((3 * t) + 2))) ml_L_222 dL_law_1317 rfl rfl (by decide) (Nat.le_of_ble_eq_true rfl) ⟨by omega, by omega⟩ (fun _ _ _ h => by cases h.1) (fun r1 f1 n1 hn1 h => ?_)
  obtain ⟨g1, -, bp1, o1, hb1, hG, hu1, hv1, hF⟩ := h
  cases g1
  have hm1 := hm.fr (f := f1) (fun a _ _ => hF a (by omega) (by omega) (by omega) (by omega))
  have hoth := hF 154 (by omega) (by omega) (by omega) (by omega)
  refine aw_istore (L' := [(6, .int (nI ((qAfter s.1 (gX G ((3 * t) + 1)) (gX G ((3 * t) + 2))).1))), (5, .int (nI (3 * t))), (4, .ref 154), (3, .ref 153), (2, .ref 144), (1, .ref 31), (0, .ref 0)]) dL_law_1320 (Nat.le_of_ble_eq_true rfl) rfl ?_
  refine aw_aload_n dL_law_1322 rfl rfl ?_
  refine aw_aload_n dL_law_1323 rfl rfl ?_
  refine aw_iload dL_law_1324 rfl ?_
  refine aw_iconst_n 1 dL_law_1326 (by decide) ?_
  refine aw_iadd_n dL_law_1327 ?_
  refine aw_sald (sc_in (by omega) hG9) dL_law_1328 ?_
  rw [nIc (by omega)]
  refine aw_aload_n dL_law_1329 rfl rfl ?_
  refine aw_iload dL_law_1330 rfl ?_
  refine aw_iconst_n 2 dL_law_1332 (by decide) ?_
  refine aw_iadd_n dL_law_1333 ?_
  refine aw_sald (sc_in (by omega) hG9) dL_law_1334 ?_
  rw [nIc (by omega)]
  have hq_m := m_amplitudeAfter (l := l) (G := G) (n := n1) (f := f1) (o := 144) (I := I) (A := A) hR.1 hB (gX G ((3 * t) + 1)) (gX G ((3 * t) + 2))
  rw [hm1.self] at hq_m
  refine aw_cP (as := [Value.int (gX G ((3 * t) + 1)), Value.int (gX G ((3 * t) + 2))]) (rest := []) (MV.c mV_X11_amplitudeAfter) (RQ.pg hR hq_m) ml_L_224 (RC.w hm1.obj rfl) dL_law_1335 rfl rfl (by decide) (Nat.le_of_ble_eq_true rfl) ⟨by omega, by omega⟩ (fun _ _ _ h => by cases h.1) (fun r2 f2 n2 hn2 h => ?_)
  obtain ⟨g1, g2, I2, A2, hf2, hR2, h12⟩ := h
  cases g1
  have g2 := g2.symm
  subst g2
  have hm2 : mAt f2 144 I2 A2 := by rw [hf2]; exact mAt.new
  have hE2 : ∀ a, (a < 144 ∨ 153 ≤ a) → f2 a = f1 a := fun a h => by rw [hf2]; exact rU_out (by omega)
  have hG2 := hG.fr (f := f2) (fun a _ _ => hE2 a (by omega)) (hE2 bp1 (by omega)) (Nat.le_refl _)
  refine aw_istore (L' := [(7, .int (nI (qAfter s.1 (gX G ((3 * t) + 1)) (gX G ((3 * t) + 2))).2)), (6, .int (nI ((qAfter s.1 (gX G ((3 * t) + 1)) (gX G ((3 * t) + 2))).1))), (5, .int (nI (3 * t))), (4, .ref 154), (3, .ref 153), (2, .ref 144), (1, .ref 31), (0, .ref 0)]) dL_law_1338 (Nat.le_of_ble_eq_true rfl) rfl ?_
  refine aw_aload_n dL_law_1340 rfl rfl ?_
  have hq_t := m_thrown (l := l) (G := G) (n := n1) (f := f2) (o := 144) (A := A2) h12
  rw [hm2.self] at hq_t
  refine aw_cI (as := []) (rest := []) (MV.c mV_X11_thrown) hq_t ml_L_155 (RC.w hm2.obj rfl) dL_law_1341 rfl rfl (by decide) (Nat.le_of_ble_eq_true rfl) ⟨by omega, by omega⟩ ?_
  refine aw_iload dL_law_1344 rfl ?_
  refine aw_icmp_eq (tgt := 1351) dL_law_1346 (by decide) (fun c_1 => ?_) (fun c_1 => by exfalso; exact c_1 rfl)
  refine aw_iload dL_law_1351 rfl ?_
  refine aw_if_ne (tgt := 1368) dL_law_1353 (by decide) (fun c_2 => ?_) (fun c_2 => ?_)
  · refine aw_goto (tgt := 2549) dL_law_1368 (by decide) ?_
    refine aw_sub [(5, .int (nI (3 * t))), (4, .ref 154), (3, .ref 153), (2, .ref 144), (1, .ref 31), (0, .ref 0)] (by simp) ?_
    exact hgo f2 bp1 n1 (s) _ _ ⟨hG2, ⟨I2, A2, hm2, hR2⟩, ⟨o1, (hE2 153 (by omega)).trans hu1⟩, ⟨od, (hE2 154 (by omega)).trans (hoth.trans hd)⟩, by omega, by omega⟩ (hSB.mono (by omega) (by omega)) (by omega) (by omega)
  · have hc0 := nI_0c hcm c_2
    refine aw_aload_n dL_law_1356 rfl rfl ?_
    refine aw_iconst_n 0 dL_law_1357 (by decide) ?_
    refine aw_lald ((hE2 153 (by omega)).trans hu1) (vp_in_nI (by decide) (by decide)) dL_law_1358 ?_
    rw [nIc (by decide), hv1 hc0]
    refine aw_iload dL_law_1359 rfl ?_
    refine aw_i2l dL_law_1361 ?_
    refine aw_lcmp dL_law_1362 ?_
    refine aw_if_eq (tgt := 1368) dL_law_1363 (by decide) (fun c_3 => ?_) (fun c_3 => by exfalso; exact c_3 (lcmp_same _))
    refine aw_goto (tgt := 2549) dL_law_1368 (by decide) ?_
    refine aw_sub [(5, .int (nI (3 * t))), (4, .ref 154), (3, .ref 153), (2, .ref 144), (1, .ref 31), (0, .ref 0)] (by simp) ?_
    exact hgo f2 bp1 n1 (s) _ _ ⟨hG2, ⟨I2, A2, hm2, hR2⟩, ⟨o1, (hE2 153 (by omega)).trans hu1⟩, ⟨od, (hE2 154 (by omega)).trans (hoth.trans hd)⟩, by omega, by omega⟩ (hSB.mono (by omega) (by omega)) (by omega) (by omega)
set_option maxHeartbeats 4000000 in
theorem lc_22 {l : Launch} {G : GT} {n0 t : Nat} {hh : List ExceptionTableEntry} {nm : String} (hG9 : gN G ≤ 1536) (ht : 3 * t + 2 < gN G) (ht9 : t < 512) (hgo : LGo l G n0 t hh nm) : LCase l G n0 t hh nm 1371 := by
  intro f bp n s nc ns hI hSB hnc hns
  obtain ⟨hW, ⟨I, A, hm, hR⟩, ⟨o, hl⟩, ⟨od, hd⟩, hn155, hbp⟩ := hI
  have hB := hSB.1
  have hc8 := hSB.2.1
  have hK9 : 30500 * t + 30500 < 16000000 := by omega
  obtain ⟨h0, ⟨J, B, hst, hS⟩, -, -, -, ⟨T1, hk1⟩, ⟨T4, hk4⟩, -, ⟨Lc, hcd, hcl, hcx⟩, hox, hbx⟩ := id hW
  have hcm : (qMeet s.1 (gX G ((3 * t) + 1)) (gX G ((3 * t) + 2))).1 ≤ 3 := Nat.le_trans (m := 3) (by unfold qMeet; (repeat' split) <;> exact Nat.le_of_ble_eq_true rfl) (by decide)
  refine aw_aload_n dL_law_1371 rfl rfl ?_
  refine aw_aload_n dL_law_1372 rfl rfl ?_
  refine aw_iload dL_law_1373 rfl ?_
  refine aw_iconst_n 1 dL_law_1375 (by decide) ?_
  refine aw_iadd_n dL_law_1376 ?_
  refine aw_sald (sc_in (by omega) hG9) dL_law_1377 ?_
  rw [nIc (by omega)]
  refine aw_aload_n dL_law_1378 rfl rfl ?_
  refine aw_iload dL_law_1379 rfl ?_
  refine aw_iconst_n 2 dL_law_1381 (by decide) ?_
  refine aw_iadd_n dL_law_1382 ?_
  refine aw_sald (sc_in (by omega) hG9) dL_law_1383 ?_
  rw [nIc (by omega)]
  refine aw_aload_n dL_law_1384 rfl rfl ?_
  refine aw_sW (as := [Value.ref 31, Value.int (gX G ((3 * t) + 1)), Value.int (gX G ((3 * t) + 2)), Value.ref 153]) (rest := []) mW_L_meeting (w_meeting (l := l) (G := G) hW hSB hK9 (by omega) (by omega) (by omega) hl (gX G ((3 * t) + 1)) (gX G ((3 * t) + 2))) ml_L_225 dL_law_1385 rfl rfl (by decide) (Nat.le_of_ble_eq_true rfl) ⟨by omega, by omega⟩ (fun _ _ _ h => by cases h.1) (fun r1 f1 n1 hn1 h => ?_)
  obtain ⟨g1, -, bp1, o1, hb1, hG, hu1, hv1, hF⟩ := h
  cases g1
  have hm1 := hm.fr (f := f1) (fun a _ _ => hF a (by omega) (by omega) (by omega) (by omega))
  have hoth := hF 154 (by omega) (by omega) (by omega) (by omega)
  refine aw_istore (L' := [(6, .int (nI ((qMeet s.1 (gX G ((3 * t) + 1)) (gX G ((3 * t) + 2))).1))), (5, .int (nI (3 * t))), (4, .ref 154), (3, .ref 153), (2, .ref 144), (1, .ref 31), (0, .ref 0)]) dL_law_1388 (Nat.le_of_ble_eq_true rfl) rfl ?_
  refine aw_aload_n dL_law_1390 rfl rfl ?_
  refine aw_aload_n dL_law_1391 rfl rfl ?_
  refine aw_iload dL_law_1392 rfl ?_
  refine aw_iconst_n 1 dL_law_1394 (by decide) ?_
  refine aw_iadd_n dL_law_1395 ?_
  refine aw_sald (sc_in (by omega) hG9) dL_law_1396 ?_
  rw [nIc (by omega)]
  refine aw_aload_n dL_law_1397 rfl rfl ?_
  refine aw_iload dL_law_1398 rfl ?_
  refine aw_iconst_n 2 dL_law_1400 (by decide) ?_
  refine aw_iadd_n dL_law_1401 ?_
  refine aw_sald (sc_in (by omega) hG9) dL_law_1402 ?_
  rw [nIc (by omega)]
  have hq_m := m_meeting (l := l) (G := G) (n := n1) (f := f1) (o := 144) (I := I) (A := A) hR.1 hB (gX G ((3 * t) + 1)) (gX G ((3 * t) + 2))
  rw [hm1.self] at hq_m
  refine aw_cP (as := [Value.int (gX G ((3 * t) + 1)), Value.int (gX G ((3 * t) + 2))]) (rest := []) (MV.c mV_X11_meeting) (RQ.pg hR hq_m) ml_L_227 (RC.w hm1.obj rfl) dL_law_1403 rfl rfl (by decide) (Nat.le_of_ble_eq_true rfl) ⟨by omega, by omega⟩ (fun _ _ _ h => by cases h.1) (fun r2 f2 n2 hn2 h => ?_)
  obtain ⟨g1, g2, I2, A2, hf2, hR2, h12⟩ := h
  cases g1
  have g2 := g2.symm
  subst g2
  have hm2 : mAt f2 144 I2 A2 := by rw [hf2]; exact mAt.new
  have hE2 : ∀ a, (a < 144 ∨ 153 ≤ a) → f2 a = f1 a := fun a h => by rw [hf2]; exact rU_out (by omega)
  have hG2 := hG.fr (f := f2) (fun a _ _ => hE2 a (by omega)) (hE2 bp1 (by omega)) (Nat.le_refl _)
  refine aw_istore (L' := [(7, .int (nI (qMeet s.1 (gX G ((3 * t) + 1)) (gX G ((3 * t) + 2))).2)), (6, .int (nI ((qMeet s.1 (gX G ((3 * t) + 1)) (gX G ((3 * t) + 2))).1))), (5, .int (nI (3 * t))), (4, .ref 154), (3, .ref 153), (2, .ref 144), (1, .ref 31), (0, .ref 0)]) dL_law_1406 (Nat.le_of_ble_eq_true rfl) rfl ?_
  refine aw_aload_n dL_law_1408 rfl rfl ?_
  have hq_t := m_thrown (l := l) (G := G) (n := n1) (f := f2) (o := 144) (A := A2) h12
  rw [hm2.self] at hq_t
  refine aw_cI (as := []) (rest := []) (MV.c mV_X11_thrown) hq_t ml_L_155 (RC.w hm2.obj rfl) dL_law_1409 rfl rfl (by decide) (Nat.le_of_ble_eq_true rfl) ⟨by omega, by omega⟩ ?_
  refine aw_iload dL_law_1412 rfl ?_
  refine aw_icmp_eq (tgt := 1419) dL_law_1414 (by decide) (fun c_1 => ?_) (fun c_1 => by exfalso; exact c_1 rfl)
  refine aw_iload dL_law_1419 rfl ?_
  refine aw_if_ne (tgt := 1436) dL_law_1421 (by decide) (fun c_2 => ?_) (fun c_2 => ?_)
  · refine aw_goto (tgt := 2549) dL_law_1436 (by decide) ?_
    refine aw_sub [(5, .int (nI (3 * t))), (4, .ref 154), (3, .ref 153), (2, .ref 144), (1, .ref 31), (0, .ref 0)] (by simp) ?_
    exact hgo f2 bp1 n1 (s) _ _ ⟨hG2, ⟨I2, A2, hm2, hR2⟩, ⟨o1, (hE2 153 (by omega)).trans hu1⟩, ⟨od, (hE2 154 (by omega)).trans (hoth.trans hd)⟩, by omega, by omega⟩ (hSB.mono (by omega) (by omega)) (by omega) (by omega)
  · have hc0 := nI_0c hcm c_2
    refine aw_aload_n dL_law_1424 rfl rfl ?_
    refine aw_iconst_n 0 dL_law_1425 (by decide) ?_
    refine aw_lald ((hE2 153 (by omega)).trans hu1) (vp_in_nI (by decide) (by decide)) dL_law_1426 ?_
    rw [nIc (by decide), hv1 hc0]
    refine aw_iload dL_law_1427 rfl ?_
    refine aw_i2l dL_law_1429 ?_
    refine aw_lcmp dL_law_1430 ?_
    refine aw_if_eq (tgt := 1436) dL_law_1431 (by decide) (fun c_3 => ?_) (fun c_3 => by exfalso; exact c_3 (lcmp_same _))
    refine aw_goto (tgt := 2549) dL_law_1436 (by decide) ?_
    refine aw_sub [(5, .int (nI (3 * t))), (4, .ref 154), (3, .ref 153), (2, .ref 144), (1, .ref 31), (0, .ref 0)] (by simp) ?_
    exact hgo f2 bp1 n1 (s) _ _ ⟨hG2, ⟨I2, A2, hm2, hR2⟩, ⟨o1, (hE2 153 (by omega)).trans hu1⟩, ⟨od, (hE2 154 (by omega)).trans (hoth.trans hd)⟩, by omega, by omega⟩ (hSB.mono (by omega) (by omega)) (by omega) (by omega)
set_option maxHeartbeats 4000000 in
theorem lc_23 {l : Launch} {G : GT} {n0 t : Nat} {hh : List ExceptionTableEntry} {nm : String} (hG9 : gN G ≤ 1536) (ht : 3 * t + 2 < gN G) (ht9 : t < 512) (hgo : LGo l G n0 t hh nm) : LCase l G n0 t hh nm 1439 := by
  intro f bp n s nc ns hI hSB hnc hns
  obtain ⟨hW, ⟨I, A, hm, hR⟩, ⟨o, hl⟩, ⟨od, hd⟩, hn155, hbp⟩ := hI
  have hB := hSB.1
  have hc8 := hSB.2.1
  have hK9 : 30500 * t + 30500 < 16000000 := by omega
  obtain ⟨h0, ⟨J, B, hst, hS⟩, -, -, -, ⟨T1, hk1⟩, ⟨T4, hk4⟩, -, ⟨Lc, hcd, hcl, hcx⟩, hox, hbx⟩ := id hW
  have hcm : (qMeet s.1 (gX G ((3 * t) + 1)) (gX G ((3 * t) + 2))).1 ≤ 3 := Nat.le_trans (m := 3) (by unfold qMeet; (repeat' split) <;> exact Nat.le_of_ble_eq_true rfl) (by decide)
  refine aw_aload_n dL_law_1439 rfl rfl ?_
  refine aw_aload_n dL_law_1440 rfl rfl ?_
  refine aw_iload dL_law_1441 rfl ?_
  refine aw_iconst_n 1 dL_law_1443 (by decide) ?_
  refine aw_iadd_n dL_law_1444 ?_
  refine aw_sald (sc_in (by omega) hG9) dL_law_1445 ?_
  rw [nIc (by omega)]
  refine aw_aload_n dL_law_1446 rfl rfl ?_
  refine aw_iload dL_law_1447 rfl ?_
  refine aw_iconst_n 2 dL_law_1449 (by decide) ?_
  refine aw_iadd_n dL_law_1450 ?_
  refine aw_sald (sc_in (by omega) hG9) dL_law_1451 ?_
  rw [nIc (by omega)]
  refine aw_aload_n dL_law_1452 rfl rfl ?_
  refine aw_sW (as := [Value.ref 31, Value.int (gX G ((3 * t) + 1)), Value.int (gX G ((3 * t) + 2)), Value.ref 153]) (rest := []) mW_L_meetingByDivisors (w_meetingByDivisors (l := l) (G := G) hW hSB hK9 (by omega) (by omega) (by omega) hl (gX G ((3 * t) + 1)) (gX G ((3 * t) + 2))) ml_L_228 dL_law_1453 rfl rfl (by decide) (Nat.le_of_ble_eq_true rfl) ⟨by omega, by omega⟩ (fun _ _ _ h => by cases h.1) (fun r1 f1 n1 hn1 h => ?_)
  obtain ⟨g1, -, bp1, o1, hb1, hG, hu1, hv1, hF⟩ := h
  cases g1
  have hm1 := hm.fr (f := f1) (fun a _ _ => hF a (by omega) (by omega) (by omega) (by omega))
  have hoth := hF 154 (by omega) (by omega) (by omega) (by omega)
  refine aw_istore (L' := [(6, .int (nI ((qMeet s.1 (gX G ((3 * t) + 1)) (gX G ((3 * t) + 2))).1))), (5, .int (nI (3 * t))), (4, .ref 154), (3, .ref 153), (2, .ref 144), (1, .ref 31), (0, .ref 0)]) dL_law_1456 (Nat.le_of_ble_eq_true rfl) rfl ?_
  refine aw_aload_n dL_law_1458 rfl rfl ?_
  refine aw_aload_n dL_law_1459 rfl rfl ?_
  refine aw_iload dL_law_1460 rfl ?_
  refine aw_iconst_n 1 dL_law_1462 (by decide) ?_
  refine aw_iadd_n dL_law_1463 ?_
  refine aw_sald (sc_in (by omega) hG9) dL_law_1464 ?_
  rw [nIc (by omega)]
  refine aw_aload_n dL_law_1465 rfl rfl ?_
  refine aw_iload dL_law_1466 rfl ?_
  refine aw_iconst_n 2 dL_law_1468 (by decide) ?_
  refine aw_iadd_n dL_law_1469 ?_
  refine aw_sald (sc_in (by omega) hG9) dL_law_1470 ?_
  rw [nIc (by omega)]
  have hq_m := m_meetingByDivisors (l := l) (G := G) (n := n1) (f := f1) (o := 144) (I := I) (A := A) hR.1 hB (gX G ((3 * t) + 1)) (gX G ((3 * t) + 2))
  rw [hm1.self] at hq_m
  refine aw_cP (as := [Value.int (gX G ((3 * t) + 1)), Value.int (gX G ((3 * t) + 2))]) (rest := []) (MV.c mV_X11_meetingByDivisors) (RQ.pg hR hq_m) ml_L_230 (RC.w hm1.obj rfl) dL_law_1471 rfl rfl (by decide) (Nat.le_of_ble_eq_true rfl) ⟨by omega, by omega⟩ (fun _ _ _ h => by cases h.1) (fun r2 f2 n2 hn2 h => ?_)
  obtain ⟨g1, g2, I2, A2, hf2, hR2, h12⟩ := h
  cases g1
  have g2 := g2.symm
  subst g2
  have hm2 : mAt f2 144 I2 A2 := by rw [hf2]; exact mAt.new
  have hE2 : ∀ a, (a < 144 ∨ 153 ≤ a) → f2 a = f1 a := fun a h => by rw [hf2]; exact rU_out (by omega)
  have hG2 := hG.fr (f := f2) (fun a _ _ => hE2 a (by omega)) (hE2 bp1 (by omega)) (Nat.le_refl _)
  refine aw_istore (L' := [(7, .int (nI (qMeet s.1 (gX G ((3 * t) + 1)) (gX G ((3 * t) + 2))).2)), (6, .int (nI ((qMeet s.1 (gX G ((3 * t) + 1)) (gX G ((3 * t) + 2))).1))), (5, .int (nI (3 * t))), (4, .ref 154), (3, .ref 153), (2, .ref 144), (1, .ref 31), (0, .ref 0)]) dL_law_1474 (Nat.le_of_ble_eq_true rfl) rfl ?_
  refine aw_aload_n dL_law_1476 rfl rfl ?_
  have hq_t := m_thrown (l := l) (G := G) (n := n1) (f := f2) (o := 144) (A := A2) h12
  rw [hm2.self] at hq_t
  refine aw_cI (as := []) (rest := []) (MV.c mV_X11_thrown) hq_t ml_L_155 (RC.w hm2.obj rfl) dL_law_1477 rfl rfl (by decide) (Nat.le_of_ble_eq_true rfl) ⟨by omega, by omega⟩ ?_
  refine aw_iload dL_law_1480 rfl ?_
  refine aw_icmp_eq (tgt := 1487) dL_law_1482 (by decide) (fun c_1 => ?_) (fun c_1 => by exfalso; exact c_1 rfl)
  refine aw_iload dL_law_1487 rfl ?_
  refine aw_if_ne (tgt := 1504) dL_law_1489 (by decide) (fun c_2 => ?_) (fun c_2 => ?_)
  · refine aw_goto (tgt := 2549) dL_law_1504 (by decide) ?_
    refine aw_sub [(5, .int (nI (3 * t))), (4, .ref 154), (3, .ref 153), (2, .ref 144), (1, .ref 31), (0, .ref 0)] (by simp) ?_
    exact hgo f2 bp1 n1 (s) _ _ ⟨hG2, ⟨I2, A2, hm2, hR2⟩, ⟨o1, (hE2 153 (by omega)).trans hu1⟩, ⟨od, (hE2 154 (by omega)).trans (hoth.trans hd)⟩, by omega, by omega⟩ (hSB.mono (by omega) (by omega)) (by omega) (by omega)
  · have hc0 := nI_0c hcm c_2
    refine aw_aload_n dL_law_1492 rfl rfl ?_
    refine aw_iconst_n 0 dL_law_1493 (by decide) ?_
    refine aw_lald ((hE2 153 (by omega)).trans hu1) (vp_in_nI (by decide) (by decide)) dL_law_1494 ?_
    rw [nIc (by decide), hv1 hc0]
    refine aw_iload dL_law_1495 rfl ?_
    refine aw_i2l dL_law_1497 ?_
    refine aw_lcmp dL_law_1498 ?_
    refine aw_if_eq (tgt := 1504) dL_law_1499 (by decide) (fun c_3 => ?_) (fun c_3 => by exfalso; exact c_3 (lcmp_same _))
    refine aw_goto (tgt := 2549) dL_law_1504 (by decide) ?_
    refine aw_sub [(5, .int (nI (3 * t))), (4, .ref 154), (3, .ref 153), (2, .ref 144), (1, .ref 31), (0, .ref 0)] (by simp) ?_
    exact hgo f2 bp1 n1 (s) _ _ ⟨hG2, ⟨I2, A2, hm2, hR2⟩, ⟨o1, (hE2 153 (by omega)).trans hu1⟩, ⟨od, (hE2 154 (by omega)).trans (hoth.trans hd)⟩, by omega, by omega⟩ (hSB.mono (by omega) (by omega)) (by omega) (by omega)
set_option maxHeartbeats 4000000 in
theorem lc_24 {l : Launch} {G : GT} {n0 t : Nat} {hh : List ExceptionTableEntry} {nm : String} (hG9 : gN G ≤ 1536) (ht : 3 * t + 2 < gN G) (ht9 : t < 512) (hgo : LGo l G n0 t hh nm) : LCase l G n0 t hh nm 1507 := by
  intro f bp n s nc ns hI hSB hnc hns
  obtain ⟨hW, ⟨I, A, hm, hR⟩, ⟨o, hl⟩, ⟨od, hd⟩, hn155, hbp⟩ := hI
  have hB := hSB.1
  have hc8 := hSB.2.1
  have hK9 : 30500 * t + 30500 < 16000000 := by omega
  obtain ⟨h0, ⟨J, B, hst, hS⟩, -, -, -, ⟨T1, hk1⟩, ⟨T4, hk4⟩, -, ⟨Lc, hcd, hcl, hcx⟩, hox, hbx⟩ := id hW
  skip
  refine aw_aload_n dL_law_1507 rfl rfl ?_
  have hq_g := HQ.gx (es := []) (c := 0) hW (g_meetingPairs (l := l) (G := G) (n := n) h0 hst hS hB)
  refine aw_cP (as := []) (rest := []) (MV.c mV_X10_meetingPairs) hq_g ml_L_231 (RC.w h0 rfl) dL_law_1508 rfl rfl (by decide) (Nat.le_of_ble_eq_true rfl) ⟨by omega, by omega⟩ (fun _ _ _ h => by obtain ⟨h9, -⟩ := h; exact absurd rfl (xA_inr h9).1) (fun r1 f1 n1 hn1 h => ?_)
  obtain ⟨g1, -, bp1, hb1, hG, hF⟩ := h
  obtain ⟨-, g1⟩ := xA_inl g1
  subst g1
  have hm1 := hm.fr (f := f1) (fun a _ _ => hF a (by omega) (by omega) (by omega))
  have ho3 := hF 153 (by omega) (by omega) (by omega)
  have ho4 := hF 154 (by omega) (by omega) (by omega)
  refine aw_aload_n dL_law_1511 rfl rfl ?_
  have hq_m := m_meetingPairs (l := l) (G := G) (n := n1) (f := f1) (o := 144) (I := I) (A := A) hR.1 hB
  rw [hm1.self] at hq_m
  refine aw_cP (as := []) (rest := [Value.int (nI (prO s.1 (s.1 2)))]) (MV.c mV_X11_meetingPairs) (RQ.pg (q := (0, prO s.1 (s.1 2))) hR hq_m) ml_L_234 (RC.w hm1.obj rfl) dL_law_1512 rfl rfl (by decide) (Nat.le_of_ble_eq_true rfl) ⟨by omega, by omega⟩ (fun _ _ _ h => by cases h.1) (fun r2 f2 n2 hn2 h => ?_)
  obtain ⟨g1, g2, I2, A2, hf2, hR2, h12⟩ := h
  cases g1
  have g2 := g2.symm
  subst g2
  have hm2 : mAt f2 144 I2 A2 := by rw [hf2]; exact mAt.new
  have hE2 : ∀ a, (a < 144 ∨ 153 ≤ a) → f2 a = f1 a := fun a h => by rw [hf2]; exact rU_out (by omega)
  have hG2 := hG.fr (f := f2) (fun a _ _ => hE2 a (by omega)) (hE2 bp1 (by omega)) (Nat.le_refl _)
  refine aw_icmp_eq (tgt := 2549) dL_law_1515 (by decide) (fun c_1 => ?_) (fun c_1 => by exfalso; exact c_1 rfl)
  refine aw_sub [(5, .int (nI (3 * t))), (4, .ref 154), (3, .ref 153), (2, .ref 144), (1, .ref 31), (0, .ref 0)] (by simp) ?_
  exact hgo f2 bp1 n1 (s) _ _ ⟨hG2, ⟨I2, A2, hm2, hR2⟩, ⟨o, (hE2 153 (by omega)).trans (ho3.trans hl)⟩, ⟨od, (hE2 154 (by omega)).trans (ho4.trans hd)⟩, by omega, by omega⟩ (hSB.mono (by omega) (by omega)) (by omega) (by omega)
set_option maxHeartbeats 4000000 in
theorem lc_25 {l : Launch} {G : GT} {n0 t : Nat} {hh : List ExceptionTableEntry} {nm : String} (hG9 : gN G ≤ 1536) (ht : 3 * t + 2 < gN G) (ht9 : t < 512) (hgo : LGo l G n0 t hh nm) : LCase l G n0 t hh nm 1520 := by
  intro f bp n s nc ns hI hSB hnc hns
  obtain ⟨hW, ⟨I, A, hm, hR⟩, ⟨o, hl⟩, ⟨od, hd⟩, hn155, hbp⟩ := hI
  have hB := hSB.1
  have hc8 := hSB.2.1
  have hK9 : 30500 * t + 30500 < 16000000 := by omega
  obtain ⟨h0, ⟨J, B, hst, hS⟩, -, -, -, ⟨T1, hk1⟩, ⟨T4, hk4⟩, -, ⟨Lc, hcd, hcl, hcx⟩, hox, hbx⟩ := id hW
  have hcm : (qCycle s.1 (gX G ((3 * t) + 1)) (gX G ((3 * t) + 2))).1 ≤ 3 := Nat.le_trans (m := 1) (by unfold qCycle; (repeat' split) <;> exact Nat.le_of_ble_eq_true rfl) (by decide)
  refine aw_aload_n dL_law_1520 rfl rfl ?_
  refine aw_aload_n dL_law_1521 rfl rfl ?_
  refine aw_iload dL_law_1522 rfl ?_
  refine aw_iconst_n 1 dL_law_1524 (by decide) ?_
  refine aw_iadd_n dL_law_1525 ?_
  refine aw_sald (sc_in (by omega) hG9) dL_law_1526 ?_
  rw [nIc (by omega)]
  refine aw_aload_n dL_law_1527 rfl rfl ?_
  refine aw_iload dL_law_1528 rfl ?_
  refine aw_iconst_n 2 dL_law_1530 (by decide) ?_
  refine aw_iadd_n dL_law_1531 ?_
  refine aw_sald (sc_in (by omega) hG9) dL_law_1532 ?_
  rw [nIc (by omega)]
  refine aw_aload_n dL_law_1533 rfl rfl ?_
  refine aw_sW (as := [Value.ref 31, Value.int (gX G ((3 * t) + 1)), Value.int (gX G ((3 * t) + 2)), Value.ref 153]) (rest := []) mW_L_cycleOf (w_cycleOf (l := l) (G := G) hW hSB hK9 (by omega) (by omega) (by omega) hl (gX G ((3 * t) + 1)) (gX G ((3 * t) + 2))) ml_L_235 dL_law_1534 rfl rfl (by decide) (Nat.le_of_ble_eq_true rfl) ⟨by omega, by omega⟩ (fun _ _ _ h => by cases h.1) (fun r1 f1 n1 hn1 h => ?_)
  obtain ⟨g1, -, bp1, o1, hb1, hG, hu1, hv1, hF⟩ := h
  cases g1
  have hm1 := hm.fr (f := f1) (fun a _ _ => hF a (by omega) (by omega) (by omega) (by omega))
  have hoth := hF 154 (by omega) (by omega) (by omega) (by omega)
  refine aw_istore (L' := [(6, .int (nI ((qCycle s.1 (gX G ((3 * t) + 1)) (gX G ((3 * t) + 2))).1))), (5, .int (nI (3 * t))), (4, .ref 154), (3, .ref 153), (2, .ref 144), (1, .ref 31), (0, .ref 0)]) dL_law_1537 (Nat.le_of_ble_eq_true rfl) rfl ?_
  refine aw_aload_n dL_law_1539 rfl rfl ?_
  refine aw_aload_n dL_law_1540 rfl rfl ?_
  refine aw_iload dL_law_1541 rfl ?_
  refine aw_iconst_n 1 dL_law_1543 (by decide) ?_
  refine aw_iadd_n dL_law_1544 ?_
  refine aw_sald (sc_in (by omega) hG9) dL_law_1545 ?_
  rw [nIc (by omega)]
  refine aw_aload_n dL_law_1546 rfl rfl ?_
  refine aw_iload dL_law_1547 rfl ?_
  refine aw_iconst_n 2 dL_law_1549 (by decide) ?_
  refine aw_iadd_n dL_law_1550 ?_
  refine aw_sald (sc_in (by omega) hG9) dL_law_1551 ?_
  rw [nIc (by omega)]
  have hq_m := m_cycleOf (l := l) (G := G) (n := n1) (f := f1) (o := 144) (I := I) (A := A) hR.1 hB (gX G ((3 * t) + 1)) (gX G ((3 * t) + 2))
  rw [hm1.self] at hq_m
  refine aw_cP (as := [Value.int (gX G ((3 * t) + 1)), Value.int (gX G ((3 * t) + 2))]) (rest := []) (MV.c mV_X11_cycleOf) (RQ.pg hR hq_m) ml_L_237 (RC.w hm1.obj rfl) dL_law_1552 rfl rfl (by decide) (Nat.le_of_ble_eq_true rfl) ⟨by omega, by omega⟩ (fun _ _ _ h => by cases h.1) (fun r2 f2 n2 hn2 h => ?_)
  obtain ⟨g1, g2, I2, A2, hf2, hR2, h12⟩ := h
  cases g1
  have g2 := g2.symm
  subst g2
  have hm2 : mAt f2 144 I2 A2 := by rw [hf2]; exact mAt.new
  have hE2 : ∀ a, (a < 144 ∨ 153 ≤ a) → f2 a = f1 a := fun a h => by rw [hf2]; exact rU_out (by omega)
  have hG2 := hG.fr (f := f2) (fun a _ _ => hE2 a (by omega)) (hE2 bp1 (by omega)) (Nat.le_refl _)
  refine aw_istore (L' := [(7, .int (nI (qCycle s.1 (gX G ((3 * t) + 1)) (gX G ((3 * t) + 2))).2)), (6, .int (nI ((qCycle s.1 (gX G ((3 * t) + 1)) (gX G ((3 * t) + 2))).1))), (5, .int (nI (3 * t))), (4, .ref 154), (3, .ref 153), (2, .ref 144), (1, .ref 31), (0, .ref 0)]) dL_law_1555 (Nat.le_of_ble_eq_true rfl) rfl ?_
  refine aw_aload_n dL_law_1557 rfl rfl ?_
  have hq_t := m_thrown (l := l) (G := G) (n := n1) (f := f2) (o := 144) (A := A2) h12
  rw [hm2.self] at hq_t
  refine aw_cI (as := []) (rest := []) (MV.c mV_X11_thrown) hq_t ml_L_155 (RC.w hm2.obj rfl) dL_law_1558 rfl rfl (by decide) (Nat.le_of_ble_eq_true rfl) ⟨by omega, by omega⟩ ?_
  refine aw_iload dL_law_1561 rfl ?_
  refine aw_icmp_eq (tgt := 1568) dL_law_1563 (by decide) (fun c_1 => ?_) (fun c_1 => by exfalso; exact c_1 rfl)
  refine aw_iload dL_law_1568 rfl ?_
  refine aw_if_ne (tgt := 1585) dL_law_1570 (by decide) (fun c_2 => ?_) (fun c_2 => ?_)
  · refine aw_goto (tgt := 2549) dL_law_1585 (by decide) ?_
    refine aw_sub [(5, .int (nI (3 * t))), (4, .ref 154), (3, .ref 153), (2, .ref 144), (1, .ref 31), (0, .ref 0)] (by simp) ?_
    exact hgo f2 bp1 n1 (s) _ _ ⟨hG2, ⟨I2, A2, hm2, hR2⟩, ⟨o1, (hE2 153 (by omega)).trans hu1⟩, ⟨od, (hE2 154 (by omega)).trans (hoth.trans hd)⟩, by omega, by omega⟩ (hSB.mono (by omega) (by omega)) (by omega) (by omega)
  · have hc0 := nI_0c hcm c_2
    refine aw_aload_n dL_law_1573 rfl rfl ?_
    refine aw_iconst_n 0 dL_law_1574 (by decide) ?_
    refine aw_lald ((hE2 153 (by omega)).trans hu1) (vp_in_nI (by decide) (by decide)) dL_law_1575 ?_
    rw [nIc (by decide), hv1 hc0]
    refine aw_iload dL_law_1576 rfl ?_
    refine aw_i2l dL_law_1578 ?_
    refine aw_lcmp dL_law_1579 ?_
    refine aw_if_eq (tgt := 1585) dL_law_1580 (by decide) (fun c_3 => ?_) (fun c_3 => by exfalso; exact c_3 (lcmp_same _))
    refine aw_goto (tgt := 2549) dL_law_1585 (by decide) ?_
    refine aw_sub [(5, .int (nI (3 * t))), (4, .ref 154), (3, .ref 153), (2, .ref 144), (1, .ref 31), (0, .ref 0)] (by simp) ?_
    exact hgo f2 bp1 n1 (s) _ _ ⟨hG2, ⟨I2, A2, hm2, hR2⟩, ⟨o1, (hE2 153 (by omega)).trans hu1⟩, ⟨od, (hE2 154 (by omega)).trans (hoth.trans hd)⟩, by omega, by omega⟩ (hSB.mono (by omega) (by omega)) (by omega) (by omega)
set_option maxHeartbeats 4000000 in
theorem lc_26 {l : Launch} {G : GT} {n0 t : Nat} {hh : List ExceptionTableEntry} {nm : String} (hG9 : gN G ≤ 1536) (ht : 3 * t + 2 < gN G) (ht9 : t < 512) (hgo : LGo l G n0 t hh nm) : LCase l G n0 t hh nm 1588 := by
  intro f bp n s nc ns hI hSB hnc hns
  obtain ⟨hW, ⟨I, A, hm, hR⟩, ⟨o, hl⟩, ⟨od, hd⟩, hn155, hbp⟩ := hI
  have hB := hSB.1
  have hc8 := hSB.2.1
  have hK9 : 30500 * t + 30500 < 16000000 := by omega
  obtain ⟨h0, ⟨J, B, hst, hS⟩, -, -, -, ⟨T1, hk1⟩, ⟨T4, hk4⟩, -, ⟨Lc, hcd, hcl, hcx⟩, hox, hbx⟩ := id hW
  have hcm : (opLeg s.1 (gX G ((3 * t) + 1))).1 ≤ 3 := Nat.le_trans (m := 2) (by unfold opLeg; (repeat' split) <;> exact Nat.le_of_ble_eq_true rfl) (by decide)
  refine aw_aload_n dL_law_1588 rfl rfl ?_
  refine aw_aload_n dL_law_1589 rfl rfl ?_
  refine aw_iload dL_law_1590 rfl ?_
  refine aw_iconst_n 1 dL_law_1592 (by decide) ?_
  refine aw_iadd_n dL_law_1593 ?_
  refine aw_sald (sc_in (by omega) hG9) dL_law_1594 ?_
  rw [nIc (by omega)]
  refine aw_aload_n dL_law_1595 rfl rfl ?_
  refine aw_sW (as := [Value.ref 31, Value.int (gX G ((3 * t) + 1)), Value.ref 153]) (rest := []) mW_L_addLeg (w_addLeg (l := l) (G := G) hW hSB hK9 (by omega) (by omega) (by omega) hl (gX G ((3 * t) + 1))) ml_L_238 dL_law_1596 rfl rfl (by decide) (Nat.le_of_ble_eq_true rfl) ⟨by omega, by omega⟩ (fun _ _ _ h => by cases h.1) (fun r1 f1 n1 hn1 h => ?_)
  obtain ⟨g1, -, bp1, o1, hb1, hG, hu1, hv1, hF⟩ := h
  cases g1
  have hm1 := hm.fr (f := f1) (fun a _ _ => hF a (by omega) (by omega) (by omega) (by omega))
  have hoth := hF 154 (by omega) (by omega) (by omega) (by omega)
  refine aw_istore (L' := [(6, .int (nI ((opLeg s.1 (gX G ((3 * t) + 1))).1))), (5, .int (nI (3 * t))), (4, .ref 154), (3, .ref 153), (2, .ref 144), (1, .ref 31), (0, .ref 0)]) dL_law_1599 (Nat.le_of_ble_eq_true rfl) rfl ?_
  refine aw_aload_n dL_law_1601 rfl rfl ?_
  refine aw_aload_n dL_law_1602 rfl rfl ?_
  refine aw_iload dL_law_1603 rfl ?_
  refine aw_iconst_n 1 dL_law_1605 (by decide) ?_
  refine aw_iadd_n dL_law_1606 ?_
  refine aw_sald (sc_in (by omega) hG9) dL_law_1607 ?_
  rw [nIc (by omega)]
  have hq_m := mo_addLeg (l := l) (G := G) (n := n1) (f := f1) (o := 144) (I := I) (A := A) hR hB hc8 (gX G ((3 * t) + 1))
  rw [hm1.self] at hq_m
  refine aw_cP (as := [Value.int (gX G ((3 * t) + 1))]) (rest := []) (MV.c mV_X11_addLeg) hq_m ml_L_240 (RC.w hm1.obj rfl) dL_law_1608 rfl rfl (by decide) (Nat.le_of_ble_eq_true rfl) ⟨by omega, by omega⟩ (fun _ _ _ h => by cases h.1) (fun r2 f2 n2 hn2 h => ?_)
  obtain ⟨g1, g2, I2, A2, hf2, hR2, h12⟩ := h
  cases g1
  have g2 := g2.symm
  subst g2
  have hm2 : mAt f2 144 I2 A2 := by rw [hf2]; exact mAt.new
  have hE2 : ∀ a, (a < 144 ∨ 153 ≤ a) → f2 a = f1 a := fun a h => by rw [hf2]; exact rU_out (by omega)
  have hG2 := hG.fr (f := f2) (fun a _ _ => hE2 a (by omega)) (hE2 bp1 (by omega)) (Nat.le_refl _)
  refine aw_istore (L' := [(7, .int (nI (opLeg s.1 (gX G ((3 * t) + 1))).2.1)), (6, .int (nI ((opLeg s.1 (gX G ((3 * t) + 1))).1))), (5, .int (nI (3 * t))), (4, .ref 154), (3, .ref 153), (2, .ref 144), (1, .ref 31), (0, .ref 0)]) dL_law_1611 (Nat.le_of_ble_eq_true rfl) rfl ?_
  refine aw_aload_n dL_law_1613 rfl rfl ?_
  have hq_t := m_thrown (l := l) (G := G) (n := n1) (f := f2) (o := 144) (A := A2) h12
  rw [hm2.self] at hq_t
  refine aw_cI (as := []) (rest := []) (MV.c mV_X11_thrown) hq_t ml_L_155 (RC.w hm2.obj rfl) dL_law_1614 rfl rfl (by decide) (Nat.le_of_ble_eq_true rfl) ⟨by omega, by omega⟩ ?_
  refine aw_iload dL_law_1617 rfl ?_
  refine aw_icmp_eq (tgt := 1624) dL_law_1619 (by decide) (fun c_1 => ?_) (fun c_1 => by exfalso; exact c_1 rfl)
  refine aw_iload dL_law_1624 rfl ?_
  refine aw_if_ne (tgt := 1641) dL_law_1626 (by decide) (fun c_2 => ?_) (fun c_2 => ?_)
  · refine aw_goto (tgt := 2549) dL_law_1641 (by decide) ?_
    refine aw_sub [(5, .int (nI (3 * t))), (4, .ref 154), (3, .ref 153), (2, .ref 144), (1, .ref 31), (0, .ref 0)] (by simp) ?_
    exact hgo f2 bp1 n1 (opS s (opLeg s.1 (gX G ((3 * t) + 1)))) _ _ ⟨hG2, ⟨I2, A2, hm2, hR2⟩, ⟨o1, (hE2 153 (by omega)).trans hu1⟩, ⟨od, (hE2 154 (by omega)).trans (hoth.trans hd)⟩, by omega, by omega⟩ (by rw [show 30500 * (t + 1) = 30500 * t + 30500 by omega]; exact hSB.chg hK9 (vq_leg hB (by omega) (gX G ((3 * t) + 1)))) (by omega) (by omega)
  · have hc0 := nI_0c hcm c_2
    refine aw_aload_n dL_law_1629 rfl rfl ?_
    refine aw_iconst_n 0 dL_law_1630 (by decide) ?_
    refine aw_lald ((hE2 153 (by omega)).trans hu1) (vp_in_nI (by decide) (by decide)) dL_law_1631 ?_
    rw [nIc (by decide), hv1 hc0]
    refine aw_iload dL_law_1632 rfl ?_
    refine aw_i2l dL_law_1634 ?_
    refine aw_lcmp dL_law_1635 ?_
    refine aw_if_eq (tgt := 1641) dL_law_1636 (by decide) (fun c_3 => ?_) (fun c_3 => by exfalso; exact c_3 (lcmp_same _))
    refine aw_goto (tgt := 2549) dL_law_1641 (by decide) ?_
    refine aw_sub [(5, .int (nI (3 * t))), (4, .ref 154), (3, .ref 153), (2, .ref 144), (1, .ref 31), (0, .ref 0)] (by simp) ?_
    exact hgo f2 bp1 n1 (opS s (opLeg s.1 (gX G ((3 * t) + 1)))) _ _ ⟨hG2, ⟨I2, A2, hm2, hR2⟩, ⟨o1, (hE2 153 (by omega)).trans hu1⟩, ⟨od, (hE2 154 (by omega)).trans (hoth.trans hd)⟩, by omega, by omega⟩ (by rw [show 30500 * (t + 1) = 30500 * t + 30500 by omega]; exact hSB.chg hK9 (vq_leg hB (by omega) (gX G ((3 * t) + 1)))) (by omega) (by omega)
set_option maxHeartbeats 4000000 in
theorem lc_27 {l : Launch} {G : GT} {n0 t : Nat} {hh : List ExceptionTableEntry} {nm : String} (hG9 : gN G ≤ 1536) (ht : 3 * t + 2 < gN G) (ht9 : t < 512) (hgo : LGo l G n0 t hh nm) : LCase l G n0 t hh nm 1644 := by
  intro f bp n s nc ns hI hSB hnc hns
  obtain ⟨hW, ⟨I, A, hm, hR⟩, ⟨o, hl⟩, ⟨od, hd⟩, hn155, hbp⟩ := hI
  have hB := hSB.1
  have hc8 := hSB.2.1
  have hK9 : 30500 * t + 30500 < 16000000 := by omega
  obtain ⟨h0, ⟨J, B, hst, hS⟩, -, -, -, ⟨T1, hk1⟩, ⟨T4, hk4⟩, -, ⟨Lc, hcd, hcl, hcx⟩, hox, hbx⟩ := id hW
  have hcm : (opCut s.1 (gX G ((3 * t) + 1))).1 ≤ 3 := Nat.le_trans (m := 1) (by unfold opCut; (repeat' split) <;> exact Nat.le_of_ble_eq_true rfl) (by decide)
  refine aw_aload_n dL_law_1644 rfl rfl ?_
  refine aw_aload_n dL_law_1645 rfl rfl ?_
  refine aw_iload dL_law_1646 rfl ?_
  refine aw_iconst_n 1 dL_law_1648 (by decide) ?_
  refine aw_iadd_n dL_law_1649 ?_
  refine aw_sald (sc_in (by omega) hG9) dL_law_1650 ?_
  rw [nIc (by omega)]
  refine aw_aload_n dL_law_1651 rfl rfl ?_
  refine aw_sW (as := [Value.ref 31, Value.int (gX G ((3 * t) + 1)), Value.ref 153]) (rest := []) mW_L_removeLeg (w_removeLeg (l := l) (G := G) hW hSB hK9 (by omega) (by omega) (by omega) hl (gX G ((3 * t) + 1))) ml_L_241 dL_law_1652 rfl rfl (by decide) (Nat.le_of_ble_eq_true rfl) ⟨by omega, by omega⟩ (fun _ _ _ h => by cases h.1) (fun r1 f1 n1 hn1 h => ?_)
  obtain ⟨g1, -, bp1, o1, hb1, hG, hu1, hv1, hF⟩ := h
  cases g1
  have hm1 := hm.fr (f := f1) (fun a _ _ => hF a (by omega) (by omega) (by omega) (by omega))
  have hoth := hF 154 (by omega) (by omega) (by omega) (by omega)
  refine aw_istore (L' := [(6, .int (nI ((opCut s.1 (gX G ((3 * t) + 1))).1))), (5, .int (nI (3 * t))), (4, .ref 154), (3, .ref 153), (2, .ref 144), (1, .ref 31), (0, .ref 0)]) dL_law_1655 (Nat.le_of_ble_eq_true rfl) rfl ?_
  refine aw_aload_n dL_law_1657 rfl rfl ?_
  refine aw_aload_n dL_law_1658 rfl rfl ?_
  refine aw_iload dL_law_1659 rfl ?_
  refine aw_iconst_n 1 dL_law_1661 (by decide) ?_
  refine aw_iadd_n dL_law_1662 ?_
  refine aw_sald (sc_in (by omega) hG9) dL_law_1663 ?_
  rw [nIc (by omega)]
  have hq_m := mo_removeLeg (l := l) (G := G) (n := n1) (f := f1) (o := 144) (I := I) (A := A) hR hB hc8 (gX G ((3 * t) + 1))
  rw [hm1.self] at hq_m
  refine aw_cP (as := [Value.int (gX G ((3 * t) + 1))]) (rest := []) (MV.c mV_X11_removeLeg) hq_m ml_L_243 (RC.w hm1.obj rfl) dL_law_1664 rfl rfl (by decide) (Nat.le_of_ble_eq_true rfl) ⟨by omega, by omega⟩ (fun _ _ _ h => by cases h.1) (fun r2 f2 n2 hn2 h => ?_)
  obtain ⟨g1, g2, I2, A2, hf2, hR2, h12⟩ := h
  cases g1
  have g2 := g2.symm
  subst g2
  have hm2 : mAt f2 144 I2 A2 := by rw [hf2]; exact mAt.new
  have hE2 : ∀ a, (a < 144 ∨ 153 ≤ a) → f2 a = f1 a := fun a h => by rw [hf2]; exact rU_out (by omega)
  have hG2 := hG.fr (f := f2) (fun a _ _ => hE2 a (by omega)) (hE2 bp1 (by omega)) (Nat.le_refl _)
  refine aw_istore (L' := [(7, .int (nI (opCut s.1 (gX G ((3 * t) + 1))).2.1)), (6, .int (nI ((opCut s.1 (gX G ((3 * t) + 1))).1))), (5, .int (nI (3 * t))), (4, .ref 154), (3, .ref 153), (2, .ref 144), (1, .ref 31), (0, .ref 0)]) dL_law_1667 (Nat.le_of_ble_eq_true rfl) rfl ?_
  refine aw_aload_n dL_law_1669 rfl rfl ?_
  have hq_t := m_thrown (l := l) (G := G) (n := n1) (f := f2) (o := 144) (A := A2) h12
  rw [hm2.self] at hq_t
  refine aw_cI (as := []) (rest := []) (MV.c mV_X11_thrown) hq_t ml_L_155 (RC.w hm2.obj rfl) dL_law_1670 rfl rfl (by decide) (Nat.le_of_ble_eq_true rfl) ⟨by omega, by omega⟩ ?_
  refine aw_iload dL_law_1673 rfl ?_
  refine aw_icmp_eq (tgt := 1680) dL_law_1675 (by decide) (fun c_1 => ?_) (fun c_1 => by exfalso; exact c_1 rfl)
  refine aw_iload dL_law_1680 rfl ?_
  refine aw_if_ne (tgt := 1697) dL_law_1682 (by decide) (fun c_2 => ?_) (fun c_2 => ?_)
  · refine aw_goto (tgt := 2549) dL_law_1697 (by decide) ?_
    refine aw_sub [(5, .int (nI (3 * t))), (4, .ref 154), (3, .ref 153), (2, .ref 144), (1, .ref 31), (0, .ref 0)] (by simp) ?_
    exact hgo f2 bp1 n1 (opS s (opCut s.1 (gX G ((3 * t) + 1)))) _ _ ⟨hG2, ⟨I2, A2, hm2, hR2⟩, ⟨o1, (hE2 153 (by omega)).trans hu1⟩, ⟨od, (hE2 154 (by omega)).trans (hoth.trans hd)⟩, by omega, by omega⟩ (by rw [show 30500 * (t + 1) = 30500 * t + 30500 by omega]; exact hSB.chg hK9 (vq_cut hB (by omega) (gX G ((3 * t) + 1)))) (by omega) (by omega)
  · have hc0 := nI_0c hcm c_2
    refine aw_aload_n dL_law_1685 rfl rfl ?_
    refine aw_iconst_n 0 dL_law_1686 (by decide) ?_
    refine aw_lald ((hE2 153 (by omega)).trans hu1) (vp_in_nI (by decide) (by decide)) dL_law_1687 ?_
    rw [nIc (by decide), hv1 hc0]
    refine aw_iload dL_law_1688 rfl ?_
    refine aw_i2l dL_law_1690 ?_
    refine aw_lcmp dL_law_1691 ?_
    refine aw_if_eq (tgt := 1697) dL_law_1692 (by decide) (fun c_3 => ?_) (fun c_3 => by exfalso; exact c_3 (lcmp_same _))
    refine aw_goto (tgt := 2549) dL_law_1697 (by decide) ?_
    refine aw_sub [(5, .int (nI (3 * t))), (4, .ref 154), (3, .ref 153), (2, .ref 144), (1, .ref 31), (0, .ref 0)] (by simp) ?_
    exact hgo f2 bp1 n1 (opS s (opCut s.1 (gX G ((3 * t) + 1)))) _ _ ⟨hG2, ⟨I2, A2, hm2, hR2⟩, ⟨o1, (hE2 153 (by omega)).trans hu1⟩, ⟨od, (hE2 154 (by omega)).trans (hoth.trans hd)⟩, by omega, by omega⟩ (by rw [show 30500 * (t + 1) = 30500 * t + 30500 by omega]; exact hSB.chg hK9 (vq_cut hB (by omega) (gX G ((3 * t) + 1)))) (by omega) (by omega)
set_option maxHeartbeats 4000000 in
theorem lc_28 {l : Launch} {G : GT} {n0 t : Nat} {hh : List ExceptionTableEntry} {nm : String} (hG9 : gN G ≤ 1536) (ht : 3 * t + 2 < gN G) (ht9 : t < 512) (hgo : LGo l G n0 t hh nm) : LCase l G n0 t hh nm 1700 := by
  intro f bp n s nc ns hI hSB hnc hns
  obtain ⟨hW, ⟨I, A, hm, hR⟩, ⟨o, hl⟩, ⟨od, hd⟩, hn155, hbp⟩ := hI
  have hB := hSB.1
  have hc8 := hSB.2.1
  have hK9 : 30500 * t + 30500 < 16000000 := by omega
  obtain ⟨h0, ⟨J, B, hst, hS⟩, -, -, -, ⟨T1, hk1⟩, ⟨T4, hk4⟩, -, ⟨Lc, hcd, hcl, hcx⟩, hox, hbx⟩ := id hW
  skip
  refine aw_aload_n dL_law_1700 rfl rfl ?_
  have hq_g := HQ.gx (es := []) (c := 0) hW (g_legCount (l := l) (G := G) (n := n) h0 hst hS hB)
  refine aw_cP (as := []) (rest := []) (MV.c mV_X10_legCount) hq_g ml_L_244 (RC.w h0 rfl) dL_law_1701 rfl rfl (by decide) (Nat.le_of_ble_eq_true rfl) ⟨by omega, by omega⟩ (fun _ _ _ h => by obtain ⟨h9, -⟩ := h; exact absurd rfl (xA_inr h9).1) (fun r1 f1 n1 hn1 h => ?_)
  obtain ⟨g1, -, bp1, hb1, hG, hF⟩ := h
  obtain ⟨-, g1⟩ := xA_inl g1
  subst g1
  have hm1 := hm.fr (f := f1) (fun a _ _ => hF a (by omega) (by omega) (by omega))
  have ho3 := hF 153 (by omega) (by omega) (by omega)
  have ho4 := hF 154 (by omega) (by omega) (by omega)
  refine aw_aload_n dL_law_1704 rfl rfl ?_
  have hq_m := m_legCount (l := l) (G := G) (n := n1) (f := f1) (o := 144) (I := I) (A := A) hR.1 hB
  rw [hm1.self] at hq_m
  refine aw_cP (as := []) (rest := [Value.int (nI (s.1 3))]) (MV.c mV_X11_legCount) (RQ.pg (q := (0, s.1 3)) hR hq_m) ml_L_247 (RC.w hm1.obj rfl) dL_law_1705 rfl rfl (by decide) (Nat.le_of_ble_eq_true rfl) ⟨by omega, by omega⟩ (fun _ _ _ h => by cases h.1) (fun r2 f2 n2 hn2 h => ?_)
  obtain ⟨g1, g2, I2, A2, hf2, hR2, h12⟩ := h
  cases g1
  have g2 := g2.symm
  subst g2
  have hm2 : mAt f2 144 I2 A2 := by rw [hf2]; exact mAt.new
  have hE2 : ∀ a, (a < 144 ∨ 153 ≤ a) → f2 a = f1 a := fun a h => by rw [hf2]; exact rU_out (by omega)
  have hG2 := hG.fr (f := f2) (fun a _ _ => hE2 a (by omega)) (hE2 bp1 (by omega)) (Nat.le_refl _)
  refine aw_icmp_eq (tgt := 2549) dL_law_1708 (by decide) (fun c_1 => ?_) (fun c_1 => by exfalso; exact c_1 rfl)
  refine aw_sub [(5, .int (nI (3 * t))), (4, .ref 154), (3, .ref 153), (2, .ref 144), (1, .ref 31), (0, .ref 0)] (by simp) ?_
  exact hgo f2 bp1 n1 (s) _ _ ⟨hG2, ⟨I2, A2, hm2, hR2⟩, ⟨o, (hE2 153 (by omega)).trans (ho3.trans hl)⟩, ⟨od, (hE2 154 (by omega)).trans (ho4.trans hd)⟩, by omega, by omega⟩ (hSB.mono (by omega) (by omega)) (by omega) (by omega)
set_option maxHeartbeats 4000000 in
theorem lc_29 {l : Launch} {G : GT} {n0 t : Nat} {hh : List ExceptionTableEntry} {nm : String} (hG9 : gN G ≤ 1536) (ht : 3 * t + 2 < gN G) (ht9 : t < 512) (hgo : LGo l G n0 t hh nm) : LCase l G n0 t hh nm 1713 := by
  intro f bp n s nc ns hI hSB hnc hns
  obtain ⟨hW, ⟨I, A, hm, hR⟩, ⟨o, hl⟩, ⟨od, hd⟩, hn155, hbp⟩ := hI
  have hB := hSB.1
  have hc8 := hSB.2.1
  have hK9 : 30500 * t + 30500 < 16000000 := by omega
  obtain ⟨h0, ⟨J, B, hst, hS⟩, -, -, -, ⟨T1, hk1⟩, ⟨T4, hk4⟩, -, ⟨Lc, hcd, hcl, hcx⟩, hox, hbx⟩ := id hW
  have hcm : (qWish s.1 (gX G ((3 * t) + 1))).1 ≤ 3 := Nat.le_trans (m := 1) (by unfold qWish; (repeat' split) <;> exact Nat.le_of_ble_eq_true rfl) (by decide)
  refine aw_aload_n dL_law_1713 rfl rfl ?_
  refine aw_aload_n dL_law_1714 rfl rfl ?_
  refine aw_iload dL_law_1715 rfl ?_
  refine aw_iconst_n 1 dL_law_1717 (by decide) ?_
  refine aw_iadd_n dL_law_1718 ?_
  refine aw_sald (sc_in (by omega) hG9) dL_law_1719 ?_
  rw [nIc (by omega)]
  refine aw_aload_n dL_law_1720 rfl rfl ?_
  refine aw_sW (as := [Value.ref 31, Value.int (gX G ((3 * t) + 1)), Value.ref 153]) (rest := []) mW_L_wishOf (w_wishOf (l := l) (G := G) hW hSB hK9 (by omega) (by omega) (by omega) hl (gX G ((3 * t) + 1))) ml_L_248 dL_law_1721 rfl rfl (by decide) (Nat.le_of_ble_eq_true rfl) ⟨by omega, by omega⟩ (fun _ _ _ h => by cases h.1) (fun r1 f1 n1 hn1 h => ?_)
  obtain ⟨g1, -, bp1, o1, hb1, hG, hu1, hv1, hF⟩ := h
  cases g1
  have hm1 := hm.fr (f := f1) (fun a _ _ => hF a (by omega) (by omega) (by omega) (by omega))
  have hoth := hF 154 (by omega) (by omega) (by omega) (by omega)
  refine aw_istore (L' := [(6, .int (nI ((qWish s.1 (gX G ((3 * t) + 1))).1))), (5, .int (nI (3 * t))), (4, .ref 154), (3, .ref 153), (2, .ref 144), (1, .ref 31), (0, .ref 0)]) dL_law_1724 (Nat.le_of_ble_eq_true rfl) rfl ?_
  refine aw_aload_n dL_law_1726 rfl rfl ?_
  refine aw_aload_n dL_law_1727 rfl rfl ?_
  refine aw_iload dL_law_1728 rfl ?_
  refine aw_iconst_n 1 dL_law_1730 (by decide) ?_
  refine aw_iadd_n dL_law_1731 ?_
  refine aw_sald (sc_in (by omega) hG9) dL_law_1732 ?_
  rw [nIc (by omega)]
  have hq_m := m_wishOf (l := l) (G := G) (n := n1) (f := f1) (o := 144) (I := I) (A := A) hR.1 hB (gX G ((3 * t) + 1))
  rw [hm1.self] at hq_m
  refine aw_cP (as := [Value.int (gX G ((3 * t) + 1))]) (rest := []) (MV.c mV_X11_wishOf) (RQ.pg hR hq_m) ml_L_250 (RC.w hm1.obj rfl) dL_law_1733 rfl rfl (by decide) (Nat.le_of_ble_eq_true rfl) ⟨by omega, by omega⟩ (fun _ _ _ h => by cases h.1) (fun r2 f2 n2 hn2 h => ?_)
  obtain ⟨g1, g2, I2, A2, hf2, hR2, h12⟩ := h
  cases g1
  have g2 := g2.symm
  subst g2
  have hm2 : mAt f2 144 I2 A2 := by rw [hf2]; exact mAt.new
  have hE2 : ∀ a, (a < 144 ∨ 153 ≤ a) → f2 a = f1 a := fun a h => by rw [hf2]; exact rU_out (by omega)
  have hG2 := hG.fr (f := f2) (fun a _ _ => hE2 a (by omega)) (hE2 bp1 (by omega)) (Nat.le_refl _)
  refine aw_istore (L' := [(7, .int (nI (qWish s.1 (gX G ((3 * t) + 1))).2)), (6, .int (nI ((qWish s.1 (gX G ((3 * t) + 1))).1))), (5, .int (nI (3 * t))), (4, .ref 154), (3, .ref 153), (2, .ref 144), (1, .ref 31), (0, .ref 0)]) dL_law_1736 (Nat.le_of_ble_eq_true rfl) rfl ?_
  refine aw_aload_n dL_law_1738 rfl rfl ?_
  have hq_t := m_thrown (l := l) (G := G) (n := n1) (f := f2) (o := 144) (A := A2) h12
  rw [hm2.self] at hq_t
  refine aw_cI (as := []) (rest := []) (MV.c mV_X11_thrown) hq_t ml_L_155 (RC.w hm2.obj rfl) dL_law_1739 rfl rfl (by decide) (Nat.le_of_ble_eq_true rfl) ⟨by omega, by omega⟩ ?_
  refine aw_iload dL_law_1742 rfl ?_
  refine aw_icmp_eq (tgt := 1749) dL_law_1744 (by decide) (fun c_1 => ?_) (fun c_1 => by exfalso; exact c_1 rfl)
  refine aw_iload dL_law_1749 rfl ?_
  refine aw_if_ne (tgt := 1766) dL_law_1751 (by decide) (fun c_2 => ?_) (fun c_2 => ?_)
  · refine aw_goto (tgt := 2549) dL_law_1766 (by decide) ?_
    refine aw_sub [(5, .int (nI (3 * t))), (4, .ref 154), (3, .ref 153), (2, .ref 144), (1, .ref 31), (0, .ref 0)] (by simp) ?_
    exact hgo f2 bp1 n1 (s) _ _ ⟨hG2, ⟨I2, A2, hm2, hR2⟩, ⟨o1, (hE2 153 (by omega)).trans hu1⟩, ⟨od, (hE2 154 (by omega)).trans (hoth.trans hd)⟩, by omega, by omega⟩ (hSB.mono (by omega) (by omega)) (by omega) (by omega)
  · have hc0 := nI_0c hcm c_2
    refine aw_aload_n dL_law_1754 rfl rfl ?_
    refine aw_iconst_n 0 dL_law_1755 (by decide) ?_
    refine aw_lald ((hE2 153 (by omega)).trans hu1) (vp_in_nI (by decide) (by decide)) dL_law_1756 ?_
    rw [nIc (by decide), hv1 hc0]
    refine aw_iload dL_law_1757 rfl ?_
    refine aw_i2l dL_law_1759 ?_
    refine aw_lcmp dL_law_1760 ?_
    refine aw_if_eq (tgt := 1766) dL_law_1761 (by decide) (fun c_3 => ?_) (fun c_3 => by exfalso; exact c_3 (lcmp_same _))
    refine aw_goto (tgt := 2549) dL_law_1766 (by decide) ?_
    refine aw_sub [(5, .int (nI (3 * t))), (4, .ref 154), (3, .ref 153), (2, .ref 144), (1, .ref 31), (0, .ref 0)] (by simp) ?_
    exact hgo f2 bp1 n1 (s) _ _ ⟨hG2, ⟨I2, A2, hm2, hR2⟩, ⟨o1, (hE2 153 (by omega)).trans hu1⟩, ⟨od, (hE2 154 (by omega)).trans (hoth.trans hd)⟩, by omega, by omega⟩ (hSB.mono (by omega) (by omega)) (by omega) (by omega)
set_option maxHeartbeats 4000000 in
theorem lc_30 {l : Launch} {G : GT} {n0 t : Nat} {hh : List ExceptionTableEntry} {nm : String} (hG9 : gN G ≤ 1536) (ht : 3 * t + 2 < gN G) (ht9 : t < 512) (hgo : LGo l G n0 t hh nm) : LCase l G n0 t hh nm 1769 := by
  intro f bp n s nc ns hI hSB hnc hns
  obtain ⟨hW, ⟨I, A, hm, hR⟩, ⟨o, hl⟩, ⟨od, hd⟩, hn155, hbp⟩ := hI
  have hB := hSB.1
  have hc8 := hSB.2.1
  have hK9 : 30500 * t + 30500 < 16000000 := by omega
  obtain ⟨h0, ⟨J, B, hst, hS⟩, -, -, -, ⟨T1, hk1⟩, ⟨T4, hk4⟩, -, ⟨Lc, hcd, hcl, hcx⟩, hox, hbx⟩ := id hW
  have hcm : (qRelay s.1).1 ≤ 3 := Nat.le_trans (m := 1) (by unfold qRelay; (repeat' split) <;> exact Nat.le_of_ble_eq_true rfl) (by decide)
  refine aw_aload_n dL_law_1769 rfl rfl ?_
  refine aw_aload_n dL_law_1770 rfl rfl ?_
  refine aw_sW (as := [Value.ref 31, Value.ref 153]) (rest := []) mW_L_leastRelay (w_leastRelay (l := l) (G := G) hW hSB hK9 (by omega) (by omega) (by omega) hl) ml_L_251 dL_law_1771 rfl rfl (by decide) (Nat.le_of_ble_eq_true rfl) ⟨by omega, by omega⟩ (fun _ _ _ h => by cases h.1) (fun r1 f1 n1 hn1 h => ?_)
  obtain ⟨g1, -, bp1, o1, hb1, hG, hu1, hv1, hF⟩ := h
  cases g1
  have hm1 := hm.fr (f := f1) (fun a _ _ => hF a (by omega) (by omega) (by omega) (by omega))
  have hoth := hF 154 (by omega) (by omega) (by omega) (by omega)
  refine aw_istore (L' := [(6, .int (nI ((qRelay s.1).1))), (5, .int (nI (3 * t))), (4, .ref 154), (3, .ref 153), (2, .ref 144), (1, .ref 31), (0, .ref 0)]) dL_law_1774 (Nat.le_of_ble_eq_true rfl) rfl ?_
  refine aw_aload_n dL_law_1776 rfl rfl ?_
  have hq_m := m_leastRelay (l := l) (G := G) (n := n1) (f := f1) (o := 144) (I := I) (A := A) hR.1 hB
  rw [hm1.self] at hq_m
  refine aw_cP (as := []) (rest := []) (MV.c mV_X11_leastRelay) (RLs.pg hR hq_m) ml_L_254 (RC.w hm1.obj rfl) dL_law_1777 rfl rfl (by decide) (Nat.le_of_ble_eq_true rfl) ⟨by omega, by omega⟩ (fun _ _ _ h => by cases h.1) (fun r2 f2 n2 hn2 h => ?_)
  obtain ⟨g1, g2, I2, A2, hf2, hR2, h12⟩ := h
  cases g1
  have g2 := g2.symm
  subst g2
  have hm2 : mAt f2 144 I2 A2 := by rw [hf2]; exact mAt.new
  have hE2 : ∀ a, (a < 144 ∨ 153 ≤ a) → f2 a = f1 a := fun a h => by rw [hf2]; exact rU_out (by omega)
  have hG2 := hG.fr (f := f2) (fun a _ _ => hE2 a (by omega)) (hE2 bp1 (by omega)) (Nat.le_refl _)
  refine aw_istore (L' := [(7, .int (nI (qRelay s.1).2)), (6, .int (nI ((qRelay s.1).1))), (5, .int (nI (3 * t))), (4, .ref 154), (3, .ref 153), (2, .ref 144), (1, .ref 31), (0, .ref 0)]) dL_law_1780 (Nat.le_of_ble_eq_true rfl) rfl ?_
  refine aw_aload_n dL_law_1782 rfl rfl ?_
  have hq_t := m_thrown (l := l) (G := G) (n := n1) (f := f2) (o := 144) (A := A2) h12
  rw [hm2.self] at hq_t
  refine aw_cI (as := []) (rest := []) (MV.c mV_X11_thrown) hq_t ml_L_155 (RC.w hm2.obj rfl) dL_law_1783 rfl rfl (by decide) (Nat.le_of_ble_eq_true rfl) ⟨by omega, by omega⟩ ?_
  refine aw_iload dL_law_1786 rfl ?_
  refine aw_icmp_eq (tgt := 1793) dL_law_1788 (by decide) (fun c_1 => ?_) (fun c_1 => by exfalso; exact c_1 rfl)
  refine aw_iload dL_law_1793 rfl ?_
  refine aw_if_ne (tgt := 1810) dL_law_1795 (by decide) (fun c_2 => ?_) (fun c_2 => ?_)
  · refine aw_goto (tgt := 2549) dL_law_1810 (by decide) ?_
    refine aw_sub [(5, .int (nI (3 * t))), (4, .ref 154), (3, .ref 153), (2, .ref 144), (1, .ref 31), (0, .ref 0)] (by simp) ?_
    exact hgo f2 bp1 n1 (s) _ _ ⟨hG2, ⟨I2, A2, hm2, hR2⟩, ⟨o1, (hE2 153 (by omega)).trans hu1⟩, ⟨od, (hE2 154 (by omega)).trans (hoth.trans hd)⟩, by omega, by omega⟩ (hSB.mono (by omega) (by omega)) (by omega) (by omega)
  · have hc0 := nI_0c hcm c_2
    refine aw_aload_n dL_law_1798 rfl rfl ?_
    refine aw_iconst_n 0 dL_law_1799 (by decide) ?_
    refine aw_lald ((hE2 153 (by omega)).trans hu1) (vp_in_nI (by decide) (by decide)) dL_law_1800 ?_
    rw [nIc (by decide), hv1 hc0]
    refine aw_iload dL_law_1801 rfl ?_
    refine aw_i2l dL_law_1803 ?_
    refine aw_lcmp dL_law_1804 ?_
    refine aw_if_eq (tgt := 1810) dL_law_1805 (by decide) (fun c_3 => ?_) (fun c_3 => by exfalso; exact c_3 (lcmp_same _))
    refine aw_goto (tgt := 2549) dL_law_1810 (by decide) ?_
    refine aw_sub [(5, .int (nI (3 * t))), (4, .ref 154), (3, .ref 153), (2, .ref 144), (1, .ref 31), (0, .ref 0)] (by simp) ?_
    exact hgo f2 bp1 n1 (s) _ _ ⟨hG2, ⟨I2, A2, hm2, hR2⟩, ⟨o1, (hE2 153 (by omega)).trans hu1⟩, ⟨od, (hE2 154 (by omega)).trans (hoth.trans hd)⟩, by omega, by omega⟩ (hSB.mono (by omega) (by omega)) (by omega) (by omega)
set_option maxHeartbeats 4000000 in
theorem lc_31 {l : Launch} {G : GT} {n0 t : Nat} {hh : List ExceptionTableEntry} {nm : String} (hG9 : gN G ≤ 1536) (ht : 3 * t + 2 < gN G) (ht9 : t < 512) (hgo : LGo l G n0 t hh nm) : LCase l G n0 t hh nm 1813 := by
  intro f bp n s nc ns hI hSB hnc hns
  obtain ⟨hW, ⟨I, A, hm, hR⟩, ⟨o, hl⟩, ⟨od, hd⟩, hn155, hbp⟩ := hI
  have hB := hSB.1
  have hc8 := hSB.2.1
  have hK9 : 30500 * t + 30500 < 16000000 := by omega
  obtain ⟨h0, ⟨J, B, hst, hS⟩, -, -, -, ⟨T1, hk1⟩, ⟨T4, hk4⟩, -, ⟨Lc, hcd, hcl, hcx⟩, hox, hbx⟩ := id hW
  have hcm : (qRelay s.1).1 ≤ 3 := Nat.le_trans (m := 1) (by unfold qRelay; (repeat' split) <;> exact Nat.le_of_ble_eq_true rfl) (by decide)
  refine aw_aload_n dL_law_1813 rfl rfl ?_
  refine aw_aload_n dL_law_1814 rfl rfl ?_
  refine aw_sW (as := [Value.ref 31, Value.ref 153]) (rest := []) mW_L_leastRelayByTrying (w_leastRelayByTrying (l := l) (G := G) hW hSB hK9 (by omega) (by omega) (by omega) hl) ml_L_255 dL_law_1815 rfl rfl (by decide) (Nat.le_of_ble_eq_true rfl) ⟨by omega, by omega⟩ (fun _ _ _ h => by cases h.1) (fun r1 f1 n1 hn1 h => ?_)
  obtain ⟨g1, -, bp1, o1, hb1, hG, hu1, hv1, hF⟩ := h
  cases g1
  have hm1 := hm.fr (f := f1) (fun a _ _ => hF a (by omega) (by omega) (by omega) (by omega))
  have hoth := hF 154 (by omega) (by omega) (by omega) (by omega)
  refine aw_istore (L' := [(6, .int (nI ((qRelay s.1).1))), (5, .int (nI (3 * t))), (4, .ref 154), (3, .ref 153), (2, .ref 144), (1, .ref 31), (0, .ref 0)]) dL_law_1818 (Nat.le_of_ble_eq_true rfl) rfl ?_
  refine aw_aload_n dL_law_1820 rfl rfl ?_
  have hq_m := m_leastRelayByTrying (l := l) (G := G) (n := n1) (f := f1) (o := 144) (I := I) (A := A) hR.1 hB
  rw [hm1.self] at hq_m
  refine aw_cP (as := []) (rest := []) (MV.c mV_X11_leastRelayByTrying) (RLs.pg hR hq_m) ml_L_257 (RC.w hm1.obj rfl) dL_law_1821 rfl rfl (by decide) (Nat.le_of_ble_eq_true rfl) ⟨by omega, by omega⟩ (fun _ _ _ h => by cases h.1) (fun r2 f2 n2 hn2 h => ?_)
  obtain ⟨g1, g2, I2, A2, hf2, hR2, h12⟩ := h
  cases g1
  have g2 := g2.symm
  subst g2
  have hm2 : mAt f2 144 I2 A2 := by rw [hf2]; exact mAt.new
  have hE2 : ∀ a, (a < 144 ∨ 153 ≤ a) → f2 a = f1 a := fun a h => by rw [hf2]; exact rU_out (by omega)
  have hG2 := hG.fr (f := f2) (fun a _ _ => hE2 a (by omega)) (hE2 bp1 (by omega)) (Nat.le_refl _)
  refine aw_istore (L' := [(7, .int (nI (qRelay s.1).2)), (6, .int (nI ((qRelay s.1).1))), (5, .int (nI (3 * t))), (4, .ref 154), (3, .ref 153), (2, .ref 144), (1, .ref 31), (0, .ref 0)]) dL_law_1824 (Nat.le_of_ble_eq_true rfl) rfl ?_
  refine aw_aload_n dL_law_1826 rfl rfl ?_
  have hq_t := m_thrown (l := l) (G := G) (n := n1) (f := f2) (o := 144) (A := A2) h12
  rw [hm2.self] at hq_t
  refine aw_cI (as := []) (rest := []) (MV.c mV_X11_thrown) hq_t ml_L_155 (RC.w hm2.obj rfl) dL_law_1827 rfl rfl (by decide) (Nat.le_of_ble_eq_true rfl) ⟨by omega, by omega⟩ ?_
  refine aw_iload dL_law_1830 rfl ?_
  refine aw_icmp_eq (tgt := 1837) dL_law_1832 (by decide) (fun c_1 => ?_) (fun c_1 => by exfalso; exact c_1 rfl)
  refine aw_iload dL_law_1837 rfl ?_
  refine aw_if_ne (tgt := 1854) dL_law_1839 (by decide) (fun c_2 => ?_) (fun c_2 => ?_)
  · refine aw_goto (tgt := 2549) dL_law_1854 (by decide) ?_
    refine aw_sub [(5, .int (nI (3 * t))), (4, .ref 154), (3, .ref 153), (2, .ref 144), (1, .ref 31), (0, .ref 0)] (by simp) ?_
    exact hgo f2 bp1 n1 (s) _ _ ⟨hG2, ⟨I2, A2, hm2, hR2⟩, ⟨o1, (hE2 153 (by omega)).trans hu1⟩, ⟨od, (hE2 154 (by omega)).trans (hoth.trans hd)⟩, by omega, by omega⟩ (hSB.mono (by omega) (by omega)) (by omega) (by omega)
  · have hc0 := nI_0c hcm c_2
    refine aw_aload_n dL_law_1842 rfl rfl ?_
    refine aw_iconst_n 0 dL_law_1843 (by decide) ?_
    refine aw_lald ((hE2 153 (by omega)).trans hu1) (vp_in_nI (by decide) (by decide)) dL_law_1844 ?_
    rw [nIc (by decide), hv1 hc0]
    refine aw_iload dL_law_1845 rfl ?_
    refine aw_i2l dL_law_1847 ?_
    refine aw_lcmp dL_law_1848 ?_
    refine aw_if_eq (tgt := 1854) dL_law_1849 (by decide) (fun c_3 => ?_) (fun c_3 => by exfalso; exact c_3 (lcmp_same _))
    refine aw_goto (tgt := 2549) dL_law_1854 (by decide) ?_
    refine aw_sub [(5, .int (nI (3 * t))), (4, .ref 154), (3, .ref 153), (2, .ref 144), (1, .ref 31), (0, .ref 0)] (by simp) ?_
    exact hgo f2 bp1 n1 (s) _ _ ⟨hG2, ⟨I2, A2, hm2, hR2⟩, ⟨o1, (hE2 153 (by omega)).trans hu1⟩, ⟨od, (hE2 154 (by omega)).trans (hoth.trans hd)⟩, by omega, by omega⟩ (hSB.mono (by omega) (by omega)) (by omega) (by omega)
set_option maxHeartbeats 4000000 in
theorem lc_32 {l : Launch} {G : GT} {n0 t : Nat} {hh : List ExceptionTableEntry} {nm : String} (hG9 : gN G ≤ 1536) (ht : 3 * t + 2 < gN G) (ht9 : t < 512) (hgo : LGo l G n0 t hh nm) : LCase l G n0 t hh nm 1857 := by
  intro f bp n s nc ns hI hSB hnc hns
  obtain ⟨hW, ⟨I, A, hm, hR⟩, ⟨o, hl⟩, ⟨od, hd⟩, hn155, hbp⟩ := hI
  have hB := hSB.1
  have hc8 := hSB.2.1
  have hK9 : 30500 * t + 30500 < 16000000 := by omega
  obtain ⟨h0, ⟨J, B, hst, hS⟩, -, -, -, ⟨T1, hk1⟩, ⟨T4, hk4⟩, -, ⟨Lc, hcd, hcl, hcx⟩, hox, hbx⟩ := id hW
  have hcm : (qRunner s.1 (gX G ((3 * t) + 1))).1 ≤ 3 := Nat.le_trans (m := 2) (by unfold qRunner; (repeat' split) <;> exact Nat.le_of_ble_eq_true rfl) (by decide)
  refine aw_aload_n dL_law_1857 rfl rfl ?_
  refine aw_aload_n dL_law_1858 rfl rfl ?_
  refine aw_iload dL_law_1859 rfl ?_
  refine aw_iconst_n 1 dL_law_1861 (by decide) ?_
  refine aw_iadd_n dL_law_1862 ?_
  refine aw_sald (sc_in (by omega) hG9) dL_law_1863 ?_
  rw [nIc (by omega)]
  refine aw_aload_n dL_law_1864 rfl rfl ?_
  refine aw_sW (as := [Value.ref 31, Value.int (gX G ((3 * t) + 1)), Value.ref 153]) (rest := []) mW_L_runnerOf (w_runnerOf (l := l) (G := G) hW hSB hK9 (by omega) (by omega) (by omega) hl (gX G ((3 * t) + 1))) ml_L_258 dL_law_1865 rfl rfl (by decide) (Nat.le_of_ble_eq_true rfl) ⟨by omega, by omega⟩ (fun _ _ _ h => by cases h.1) (fun r1 f1 n1 hn1 h => ?_)
  obtain ⟨g1, -, bp1, o1, hb1, hG, hu1, hv1, hF⟩ := h
  cases g1
  have hm1 := hm.fr (f := f1) (fun a _ _ => hF a (by omega) (by omega) (by omega) (by omega))
  have hoth := hF 154 (by omega) (by omega) (by omega) (by omega)
  refine aw_istore (L' := [(6, .int (nI ((qRunner s.1 (gX G ((3 * t) + 1))).1))), (5, .int (nI (3 * t))), (4, .ref 154), (3, .ref 153), (2, .ref 144), (1, .ref 31), (0, .ref 0)]) dL_law_1868 (Nat.le_of_ble_eq_true rfl) rfl ?_
  refine aw_aload_n dL_law_1870 rfl rfl ?_
  refine aw_aload_n dL_law_1871 rfl rfl ?_
  refine aw_iload dL_law_1872 rfl ?_
  refine aw_iconst_n 1 dL_law_1874 (by decide) ?_
  refine aw_iadd_n dL_law_1875 ?_
  refine aw_sald (sc_in (by omega) hG9) dL_law_1876 ?_
  rw [nIc (by omega)]
  have hq_m := m_runnerOf (l := l) (G := G) (n := n1) (f := f1) (o := 144) (I := I) (A := A) hR.1 hB (gX G ((3 * t) + 1))
  rw [hm1.self] at hq_m
  refine aw_cP (as := [Value.int (gX G ((3 * t) + 1))]) (rest := []) (MV.c mV_X11_runnerOf) (RLs.pg hR hq_m) ml_L_260 (RC.w hm1.obj rfl) dL_law_1877 rfl rfl (by decide) (Nat.le_of_ble_eq_true rfl) ⟨by omega, by omega⟩ (fun _ _ _ h => by cases h.1) (fun r2 f2 n2 hn2 h => ?_)
  obtain ⟨g1, g2, I2, A2, hf2, hR2, h12⟩ := h
  cases g1
  have g2 := g2.symm
  subst g2
  have hm2 : mAt f2 144 I2 A2 := by rw [hf2]; exact mAt.new
  have hE2 : ∀ a, (a < 144 ∨ 153 ≤ a) → f2 a = f1 a := fun a h => by rw [hf2]; exact rU_out (by omega)
  have hG2 := hG.fr (f := f2) (fun a _ _ => hE2 a (by omega)) (hE2 bp1 (by omega)) (Nat.le_refl _)
  refine aw_istore (L' := [(7, .int (nI (qRunner s.1 (gX G ((3 * t) + 1))).2)), (6, .int (nI ((qRunner s.1 (gX G ((3 * t) + 1))).1))), (5, .int (nI (3 * t))), (4, .ref 154), (3, .ref 153), (2, .ref 144), (1, .ref 31), (0, .ref 0)]) dL_law_1880 (Nat.le_of_ble_eq_true rfl) rfl ?_
  refine aw_aload_n dL_law_1882 rfl rfl ?_
  have hq_t := m_thrown (l := l) (G := G) (n := n1) (f := f2) (o := 144) (A := A2) h12
  rw [hm2.self] at hq_t
  refine aw_cI (as := []) (rest := []) (MV.c mV_X11_thrown) hq_t ml_L_155 (RC.w hm2.obj rfl) dL_law_1883 rfl rfl (by decide) (Nat.le_of_ble_eq_true rfl) ⟨by omega, by omega⟩ ?_
  refine aw_iload dL_law_1886 rfl ?_
  refine aw_icmp_eq (tgt := 1893) dL_law_1888 (by decide) (fun c_1 => ?_) (fun c_1 => by exfalso; exact c_1 rfl)
  refine aw_iload dL_law_1893 rfl ?_
  refine aw_if_ne (tgt := 1910) dL_law_1895 (by decide) (fun c_2 => ?_) (fun c_2 => ?_)
  · refine aw_goto (tgt := 2549) dL_law_1910 (by decide) ?_
    refine aw_sub [(5, .int (nI (3 * t))), (4, .ref 154), (3, .ref 153), (2, .ref 144), (1, .ref 31), (0, .ref 0)] (by simp) ?_
    exact hgo f2 bp1 n1 (s) _ _ ⟨hG2, ⟨I2, A2, hm2, hR2⟩, ⟨o1, (hE2 153 (by omega)).trans hu1⟩, ⟨od, (hE2 154 (by omega)).trans (hoth.trans hd)⟩, by omega, by omega⟩ (hSB.mono (by omega) (by omega)) (by omega) (by omega)
  · have hc0 := nI_0c hcm c_2
    refine aw_aload_n dL_law_1898 rfl rfl ?_
    refine aw_iconst_n 0 dL_law_1899 (by decide) ?_
    refine aw_lald ((hE2 153 (by omega)).trans hu1) (vp_in_nI (by decide) (by decide)) dL_law_1900 ?_
    rw [nIc (by decide), hv1 hc0]
    refine aw_iload dL_law_1901 rfl ?_
    refine aw_i2l dL_law_1903 ?_
    refine aw_lcmp dL_law_1904 ?_
    refine aw_if_eq (tgt := 1910) dL_law_1905 (by decide) (fun c_3 => ?_) (fun c_3 => by exfalso; exact c_3 (lcmp_same _))
    refine aw_goto (tgt := 2549) dL_law_1910 (by decide) ?_
    refine aw_sub [(5, .int (nI (3 * t))), (4, .ref 154), (3, .ref 153), (2, .ref 144), (1, .ref 31), (0, .ref 0)] (by simp) ?_
    exact hgo f2 bp1 n1 (s) _ _ ⟨hG2, ⟨I2, A2, hm2, hR2⟩, ⟨o1, (hE2 153 (by omega)).trans hu1⟩, ⟨od, (hE2 154 (by omega)).trans (hoth.trans hd)⟩, by omega, by omega⟩ (hSB.mono (by omega) (by omega)) (by omega) (by omega)
set_option maxHeartbeats 4000000 in
theorem lc_33 {l : Launch} {G : GT} {n0 t : Nat} {hh : List ExceptionTableEntry} {nm : String} (hG9 : gN G ≤ 1536) (ht : 3 * t + 2 < gN G) (ht9 : t < 512) (hgo : LGo l G n0 t hh nm) : LCase l G n0 t hh nm 1913 := by
  intro f bp n s nc ns hI hSB hnc hns
  obtain ⟨hW, ⟨I, A, hm, hR⟩, ⟨o, hl⟩, ⟨od, hd⟩, hn155, hbp⟩ := hI
  have hB := hSB.1
  have hc8 := hSB.2.1
  have hK9 : 30500 * t + 30500 < 16000000 := by omega
  obtain ⟨h0, ⟨J, B, hst, hS⟩, -, -, -, ⟨T1, hk1⟩, ⟨T4, hk4⟩, -, ⟨Lc, hcd, hcl, hcx⟩, hox, hbx⟩ := id hW
  have hcm : (qFew s.1 (gX G ((3 * t) + 1))).1 ≤ 3 := Nat.le_trans (m := 2) (by unfold qFew; (repeat' split) <;> exact Nat.le_of_ble_eq_true rfl) (by decide)
  refine aw_aload_n dL_law_1913 rfl rfl ?_
  refine aw_aload_n dL_law_1914 rfl rfl ?_
  refine aw_iload dL_law_1915 rfl ?_
  refine aw_iconst_n 1 dL_law_1917 (by decide) ?_
  refine aw_iadd_n dL_law_1918 ?_
  refine aw_sald (sc_in (by omega) hG9) dL_law_1919 ?_
  rw [nIc (by omega)]
  refine aw_aload_n dL_law_1920 rfl rfl ?_
  refine aw_sW (as := [Value.ref 31, Value.int (gX G ((3 * t) + 1)), Value.ref 153]) (rest := []) mW_L_fewestFor (w_fewestFor (l := l) (G := G) hW hSB hK9 (by omega) (by omega) (by omega) hl (gX G ((3 * t) + 1))) ml_L_261 dL_law_1921 rfl rfl (by decide) (Nat.le_of_ble_eq_true rfl) ⟨by omega, by omega⟩ (fun _ _ _ h => by cases h.1) (fun r1 f1 n1 hn1 h => ?_)
  obtain ⟨g1, -, bp1, o1, hb1, hG, hu1, hv1, hF⟩ := h
  cases g1
  have hm1 := hm.fr (f := f1) (fun a _ _ => hF a (by omega) (by omega) (by omega) (by omega))
  have hoth := hF 154 (by omega) (by omega) (by omega) (by omega)
  refine aw_istore (L' := [(6, .int (nI ((qFew s.1 (gX G ((3 * t) + 1))).1))), (5, .int (nI (3 * t))), (4, .ref 154), (3, .ref 153), (2, .ref 144), (1, .ref 31), (0, .ref 0)]) dL_law_1924 (Nat.le_of_ble_eq_true rfl) rfl ?_
  refine aw_aload_n dL_law_1926 rfl rfl ?_
  refine aw_aload_n dL_law_1927 rfl rfl ?_
  refine aw_iload dL_law_1928 rfl ?_
  refine aw_iconst_n 1 dL_law_1930 (by decide) ?_
  refine aw_iadd_n dL_law_1931 ?_
  refine aw_sald (sc_in (by omega) hG9) dL_law_1932 ?_
  rw [nIc (by omega)]
  have hq_m := m_fewestFor (l := l) (G := G) (n := n1) (f := f1) (o := 144) (I := I) (A := A) hR.1 hB (gX G ((3 * t) + 1))
  rw [hm1.self] at hq_m
  refine aw_cP (as := [Value.int (gX G ((3 * t) + 1))]) (rest := []) (MV.c mV_X11_fewestFor) (RQ.pg hR hq_m) ml_L_263 (RC.w hm1.obj rfl) dL_law_1933 rfl rfl (by decide) (Nat.le_of_ble_eq_true rfl) ⟨by omega, by omega⟩ (fun _ _ _ h => by cases h.1) (fun r2 f2 n2 hn2 h => ?_)
  obtain ⟨g1, g2, I2, A2, hf2, hR2, h12⟩ := h
  cases g1
  have g2 := g2.symm
  subst g2
  have hm2 : mAt f2 144 I2 A2 := by rw [hf2]; exact mAt.new
  have hE2 : ∀ a, (a < 144 ∨ 153 ≤ a) → f2 a = f1 a := fun a h => by rw [hf2]; exact rU_out (by omega)
  have hG2 := hG.fr (f := f2) (fun a _ _ => hE2 a (by omega)) (hE2 bp1 (by omega)) (Nat.le_refl _)
  refine aw_istore (L' := [(7, .int (nI (qFew s.1 (gX G ((3 * t) + 1))).2)), (6, .int (nI ((qFew s.1 (gX G ((3 * t) + 1))).1))), (5, .int (nI (3 * t))), (4, .ref 154), (3, .ref 153), (2, .ref 144), (1, .ref 31), (0, .ref 0)]) dL_law_1936 (Nat.le_of_ble_eq_true rfl) rfl ?_
  refine aw_aload_n dL_law_1938 rfl rfl ?_
  have hq_t := m_thrown (l := l) (G := G) (n := n1) (f := f2) (o := 144) (A := A2) h12
  rw [hm2.self] at hq_t
  refine aw_cI (as := []) (rest := []) (MV.c mV_X11_thrown) hq_t ml_L_155 (RC.w hm2.obj rfl) dL_law_1939 rfl rfl (by decide) (Nat.le_of_ble_eq_true rfl) ⟨by omega, by omega⟩ ?_
  refine aw_iload dL_law_1942 rfl ?_
  refine aw_icmp_eq (tgt := 1949) dL_law_1944 (by decide) (fun c_1 => ?_) (fun c_1 => by exfalso; exact c_1 rfl)
  refine aw_iload dL_law_1949 rfl ?_
  refine aw_if_ne (tgt := 1966) dL_law_1951 (by decide) (fun c_2 => ?_) (fun c_2 => ?_)
  · refine aw_goto (tgt := 2549) dL_law_1966 (by decide) ?_
    refine aw_sub [(5, .int (nI (3 * t))), (4, .ref 154), (3, .ref 153), (2, .ref 144), (1, .ref 31), (0, .ref 0)] (by simp) ?_
    exact hgo f2 bp1 n1 (s) _ _ ⟨hG2, ⟨I2, A2, hm2, hR2⟩, ⟨o1, (hE2 153 (by omega)).trans hu1⟩, ⟨od, (hE2 154 (by omega)).trans (hoth.trans hd)⟩, by omega, by omega⟩ (hSB.mono (by omega) (by omega)) (by omega) (by omega)
  · have hc0 := nI_0c hcm c_2
    refine aw_aload_n dL_law_1954 rfl rfl ?_
    refine aw_iconst_n 0 dL_law_1955 (by decide) ?_
    refine aw_lald ((hE2 153 (by omega)).trans hu1) (vp_in_nI (by decide) (by decide)) dL_law_1956 ?_
    rw [nIc (by decide), hv1 hc0]
    refine aw_iload dL_law_1957 rfl ?_
    refine aw_i2l dL_law_1959 ?_
    refine aw_lcmp dL_law_1960 ?_
    refine aw_if_eq (tgt := 1966) dL_law_1961 (by decide) (fun c_3 => ?_) (fun c_3 => by exfalso; exact c_3 (lcmp_same _))
    refine aw_goto (tgt := 2549) dL_law_1966 (by decide) ?_
    refine aw_sub [(5, .int (nI (3 * t))), (4, .ref 154), (3, .ref 153), (2, .ref 144), (1, .ref 31), (0, .ref 0)] (by simp) ?_
    exact hgo f2 bp1 n1 (s) _ _ ⟨hG2, ⟨I2, A2, hm2, hR2⟩, ⟨o1, (hE2 153 (by omega)).trans hu1⟩, ⟨od, (hE2 154 (by omega)).trans (hoth.trans hd)⟩, by omega, by omega⟩ (hSB.mono (by omega) (by omega)) (by omega) (by omega)
set_option maxHeartbeats 4000000 in
theorem lc_34 {l : Launch} {G : GT} {n0 t : Nat} {hh : List ExceptionTableEntry} {nm : String} (hG9 : gN G ≤ 1536) (ht : 3 * t + 2 < gN G) (ht9 : t < 512) (hgo : LGo l G n0 t hh nm) : LCase l G n0 t hh nm 1969 := by
  intro f bp n s nc ns hI hSB hnc hns
  obtain ⟨hW, ⟨I, A, hm, hR⟩, ⟨o, hl⟩, ⟨od, hd⟩, hn155, hbp⟩ := hI
  have hB := hSB.1
  have hc8 := hSB.2.1
  have hK9 : 30500 * t + 30500 < 16000000 := by omega
  obtain ⟨h0, ⟨J, B, hst, hS⟩, -, -, -, ⟨T1, hk1⟩, ⟨T4, hk4⟩, -, ⟨Lc, hcd, hcl, hcx⟩, hox, hbx⟩ := id hW
  have hcm : (qFew s.1 (gX G ((3 * t) + 1))).1 ≤ 3 := Nat.le_trans (m := 2) (by unfold qFew; (repeat' split) <;> exact Nat.le_of_ble_eq_true rfl) (by decide)
  refine aw_aload_n dL_law_1969 rfl rfl ?_
  refine aw_aload_n dL_law_1970 rfl rfl ?_
  refine aw_iload dL_law_1971 rfl ?_
  refine aw_iconst_n 1 dL_law_1973 (by decide) ?_
  refine aw_iadd_n dL_law_1974 ?_
  refine aw_sald (sc_in (by omega) hG9) dL_law_1975 ?_
  rw [nIc (by omega)]
  refine aw_aload_n dL_law_1976 rfl rfl ?_
  refine aw_sW (as := [Value.ref 31, Value.int (gX G ((3 * t) + 1)), Value.ref 153]) (rest := []) mW_L_fewestForBySets (w_fewestForBySets (l := l) (G := G) hW hSB hK9 (by omega) (by omega) (by omega) hl (gX G ((3 * t) + 1))) ml_L_264 dL_law_1977 rfl rfl (by decide) (Nat.le_of_ble_eq_true rfl) ⟨by omega, by omega⟩ (fun _ _ _ h => by cases h.1) (fun r1 f1 n1 hn1 h => ?_)
  obtain ⟨g1, -, bp1, o1, hb1, hG, hu1, hv1, hF⟩ := h
  cases g1
  have hm1 := hm.fr (f := f1) (fun a _ _ => hF a (by omega) (by omega) (by omega) (by omega))
  have hoth := hF 154 (by omega) (by omega) (by omega) (by omega)
  refine aw_istore (L' := [(6, .int (nI ((qFew s.1 (gX G ((3 * t) + 1))).1))), (5, .int (nI (3 * t))), (4, .ref 154), (3, .ref 153), (2, .ref 144), (1, .ref 31), (0, .ref 0)]) dL_law_1980 (Nat.le_of_ble_eq_true rfl) rfl ?_
  refine aw_aload_n dL_law_1982 rfl rfl ?_
  refine aw_aload_n dL_law_1983 rfl rfl ?_
  refine aw_iload dL_law_1984 rfl ?_
  refine aw_iconst_n 1 dL_law_1986 (by decide) ?_
  refine aw_iadd_n dL_law_1987 ?_
  refine aw_sald (sc_in (by omega) hG9) dL_law_1988 ?_
  rw [nIc (by omega)]
  have hq_m := m_fewestForBySets (l := l) (G := G) (n := n1) (f := f1) (o := 144) (I := I) (A := A) hR.1 hB (gX G ((3 * t) + 1))
  rw [hm1.self] at hq_m
  refine aw_cP (as := [Value.int (gX G ((3 * t) + 1))]) (rest := []) (MV.c mV_X11_fewestForBySets) (RQ.pg hR hq_m) ml_L_266 (RC.w hm1.obj rfl) dL_law_1989 rfl rfl (by decide) (Nat.le_of_ble_eq_true rfl) ⟨by omega, by omega⟩ (fun _ _ _ h => by cases h.1) (fun r2 f2 n2 hn2 h => ?_)
  obtain ⟨g1, g2, I2, A2, hf2, hR2, h12⟩ := h
  cases g1
  have g2 := g2.symm
  subst g2
  have hm2 : mAt f2 144 I2 A2 := by rw [hf2]; exact mAt.new
  have hE2 : ∀ a, (a < 144 ∨ 153 ≤ a) → f2 a = f1 a := fun a h => by rw [hf2]; exact rU_out (by omega)
  have hG2 := hG.fr (f := f2) (fun a _ _ => hE2 a (by omega)) (hE2 bp1 (by omega)) (Nat.le_refl _)
  refine aw_istore (L' := [(7, .int (nI (qFew s.1 (gX G ((3 * t) + 1))).2)), (6, .int (nI ((qFew s.1 (gX G ((3 * t) + 1))).1))), (5, .int (nI (3 * t))), (4, .ref 154), (3, .ref 153), (2, .ref 144), (1, .ref 31), (0, .ref 0)]) dL_law_1992 (Nat.le_of_ble_eq_true rfl) rfl ?_
  refine aw_aload_n dL_law_1994 rfl rfl ?_
  have hq_t := m_thrown (l := l) (G := G) (n := n1) (f := f2) (o := 144) (A := A2) h12
  rw [hm2.self] at hq_t
  refine aw_cI (as := []) (rest := []) (MV.c mV_X11_thrown) hq_t ml_L_155 (RC.w hm2.obj rfl) dL_law_1995 rfl rfl (by decide) (Nat.le_of_ble_eq_true rfl) ⟨by omega, by omega⟩ ?_
  refine aw_iload dL_law_1998 rfl ?_
  refine aw_icmp_eq (tgt := 2005) dL_law_2000 (by decide) (fun c_1 => ?_) (fun c_1 => by exfalso; exact c_1 rfl)
  refine aw_iload dL_law_2005 rfl ?_
  refine aw_if_ne (tgt := 2022) dL_law_2007 (by decide) (fun c_2 => ?_) (fun c_2 => ?_)
  · refine aw_goto (tgt := 2549) dL_law_2022 (by decide) ?_
    refine aw_sub [(5, .int (nI (3 * t))), (4, .ref 154), (3, .ref 153), (2, .ref 144), (1, .ref 31), (0, .ref 0)] (by simp) ?_
    exact hgo f2 bp1 n1 (s) _ _ ⟨hG2, ⟨I2, A2, hm2, hR2⟩, ⟨o1, (hE2 153 (by omega)).trans hu1⟩, ⟨od, (hE2 154 (by omega)).trans (hoth.trans hd)⟩, by omega, by omega⟩ (hSB.mono (by omega) (by omega)) (by omega) (by omega)
  · have hc0 := nI_0c hcm c_2
    refine aw_aload_n dL_law_2010 rfl rfl ?_
    refine aw_iconst_n 0 dL_law_2011 (by decide) ?_
    refine aw_lald ((hE2 153 (by omega)).trans hu1) (vp_in_nI (by decide) (by decide)) dL_law_2012 ?_
    rw [nIc (by decide), hv1 hc0]
    refine aw_iload dL_law_2013 rfl ?_
    refine aw_i2l dL_law_2015 ?_
    refine aw_lcmp dL_law_2016 ?_
    refine aw_if_eq (tgt := 2022) dL_law_2017 (by decide) (fun c_3 => ?_) (fun c_3 => by exfalso; exact c_3 (lcmp_same _))
    refine aw_goto (tgt := 2549) dL_law_2022 (by decide) ?_
    refine aw_sub [(5, .int (nI (3 * t))), (4, .ref 154), (3, .ref 153), (2, .ref 144), (1, .ref 31), (0, .ref 0)] (by simp) ?_
    exact hgo f2 bp1 n1 (s) _ _ ⟨hG2, ⟨I2, A2, hm2, hR2⟩, ⟨o1, (hE2 153 (by omega)).trans hu1⟩, ⟨od, (hE2 154 (by omega)).trans (hoth.trans hd)⟩, by omega, by omega⟩ (hSB.mono (by omega) (by omega)) (by omega) (by omega)
set_option maxHeartbeats 4000000 in
theorem lc_35 {l : Launch} {G : GT} {n0 t : Nat} {hh : List ExceptionTableEntry} {nm : String} (hG9 : gN G ≤ 1536) (ht : 3 * t + 2 < gN G) (ht9 : t < 512) (hgo : LGo l G n0 t hh nm) : LCase l G n0 t hh nm 2025 := by
  intro f bp n s nc ns hI hSB hnc hns
  obtain ⟨hW, ⟨I, A, hm, hR⟩, ⟨o, hl⟩, ⟨od, hd⟩, hn155, hbp⟩ := hI
  have hB := hSB.1
  have hc8 := hSB.2.1
  have hK9 : 30500 * t + 30500 < 16000000 := by omega
  obtain ⟨h0, ⟨J, B, hst, hS⟩, -, -, -, ⟨T1, hk1⟩, ⟨T4, hk4⟩, -, ⟨Lc, hcd, hcl, hcx⟩, hox, hbx⟩ := id hW
  have hcm : (qExa s.1 (gX G ((3 * t) + 1))).1 ≤ 3 := Nat.le_trans (m := 1) (by unfold qExa; (repeat' split) <;> exact Nat.le_of_ble_eq_true rfl) (by decide)
  refine aw_aload_n dL_law_2025 rfl rfl ?_
  refine aw_aload_n dL_law_2026 rfl rfl ?_
  refine aw_iload dL_law_2027 rfl ?_
  refine aw_iconst_n 1 dL_law_2029 (by decide) ?_
  refine aw_iadd_n dL_law_2030 ?_
  refine aw_sald (sc_in (by omega) hG9) dL_law_2031 ?_
  rw [nIc (by omega)]
  refine aw_aload_n dL_law_2032 rfl rfl ?_
  refine aw_sW (as := [Value.ref 31, Value.int (gX G ((3 * t) + 1)), Value.ref 153]) (rest := []) mW_L_exactSets (w_exactSets (l := l) (G := G) hW hSB hK9 (by omega) (by omega) (by omega) hl (gX G ((3 * t) + 1))) ml_L_267 dL_law_2033 rfl rfl (by decide) (Nat.le_of_ble_eq_true rfl) ⟨by omega, by omega⟩ (fun _ _ _ h => by cases h.1) (fun r1 f1 n1 hn1 h => ?_)
  obtain ⟨g1, -, bp1, o1, hb1, hG, hu1, hv1, hF⟩ := h
  cases g1
  have hm1 := hm.fr (f := f1) (fun a _ _ => hF a (by omega) (by omega) (by omega) (by omega))
  have hoth := hF 154 (by omega) (by omega) (by omega) (by omega)
  refine aw_istore (L' := [(6, .int (nI ((qExa s.1 (gX G ((3 * t) + 1))).1))), (5, .int (nI (3 * t))), (4, .ref 154), (3, .ref 153), (2, .ref 144), (1, .ref 31), (0, .ref 0)]) dL_law_2036 (Nat.le_of_ble_eq_true rfl) rfl ?_
  refine aw_aload_n dL_law_2038 rfl rfl ?_
  refine aw_aload_n dL_law_2039 rfl rfl ?_
  refine aw_iload dL_law_2040 rfl ?_
  refine aw_iconst_n 1 dL_law_2042 (by decide) ?_
  refine aw_iadd_n dL_law_2043 ?_
  refine aw_sald (sc_in (by omega) hG9) dL_law_2044 ?_
  rw [nIc (by omega)]
  have hq_m := m_exactSets (l := l) (G := G) (n := n1) (f := f1) (o := 144) (I := I) (A := A) hR.1 hB (gX G ((3 * t) + 1))
  rw [hm1.self] at hq_m
  refine aw_cP (as := [Value.int (gX G ((3 * t) + 1))]) (rest := []) (MV.c mV_X11_exactSets) (RQ.pg hR hq_m) ml_L_269 (RC.w hm1.obj rfl) dL_law_2045 rfl rfl (by decide) (Nat.le_of_ble_eq_true rfl) ⟨by omega, by omega⟩ (fun _ _ _ h => by cases h.1) (fun r2 f2 n2 hn2 h => ?_)
  obtain ⟨g1, g2, I2, A2, hf2, hR2, h12⟩ := h
  cases g1
  have g2 := g2.symm
  subst g2
  have hm2 : mAt f2 144 I2 A2 := by rw [hf2]; exact mAt.new
  have hE2 : ∀ a, (a < 144 ∨ 153 ≤ a) → f2 a = f1 a := fun a h => by rw [hf2]; exact rU_out (by omega)
  have hG2 := hG.fr (f := f2) (fun a _ _ => hE2 a (by omega)) (hE2 bp1 (by omega)) (Nat.le_refl _)
  refine aw_istore (L' := [(7, .int (nI (qExa s.1 (gX G ((3 * t) + 1))).2)), (6, .int (nI ((qExa s.1 (gX G ((3 * t) + 1))).1))), (5, .int (nI (3 * t))), (4, .ref 154), (3, .ref 153), (2, .ref 144), (1, .ref 31), (0, .ref 0)]) dL_law_2048 (Nat.le_of_ble_eq_true rfl) rfl ?_
  refine aw_aload_n dL_law_2050 rfl rfl ?_
  have hq_t := m_thrown (l := l) (G := G) (n := n1) (f := f2) (o := 144) (A := A2) h12
  rw [hm2.self] at hq_t
  refine aw_cI (as := []) (rest := []) (MV.c mV_X11_thrown) hq_t ml_L_155 (RC.w hm2.obj rfl) dL_law_2051 rfl rfl (by decide) (Nat.le_of_ble_eq_true rfl) ⟨by omega, by omega⟩ ?_
  refine aw_iload dL_law_2054 rfl ?_
  refine aw_icmp_eq (tgt := 2061) dL_law_2056 (by decide) (fun c_1 => ?_) (fun c_1 => by exfalso; exact c_1 rfl)
  refine aw_iload dL_law_2061 rfl ?_
  refine aw_if_ne (tgt := 2078) dL_law_2063 (by decide) (fun c_2 => ?_) (fun c_2 => ?_)
  · refine aw_goto (tgt := 2549) dL_law_2078 (by decide) ?_
    refine aw_sub [(5, .int (nI (3 * t))), (4, .ref 154), (3, .ref 153), (2, .ref 144), (1, .ref 31), (0, .ref 0)] (by simp) ?_
    exact hgo f2 bp1 n1 (s) _ _ ⟨hG2, ⟨I2, A2, hm2, hR2⟩, ⟨o1, (hE2 153 (by omega)).trans hu1⟩, ⟨od, (hE2 154 (by omega)).trans (hoth.trans hd)⟩, by omega, by omega⟩ (hSB.mono (by omega) (by omega)) (by omega) (by omega)
  · have hc0 := nI_0c hcm c_2
    refine aw_aload_n dL_law_2066 rfl rfl ?_
    refine aw_iconst_n 0 dL_law_2067 (by decide) ?_
    refine aw_lald ((hE2 153 (by omega)).trans hu1) (vp_in_nI (by decide) (by decide)) dL_law_2068 ?_
    rw [nIc (by decide), hv1 hc0]
    refine aw_iload dL_law_2069 rfl ?_
    refine aw_i2l dL_law_2071 ?_
    refine aw_lcmp dL_law_2072 ?_
    refine aw_if_eq (tgt := 2078) dL_law_2073 (by decide) (fun c_3 => ?_) (fun c_3 => by exfalso; exact c_3 (lcmp_same _))
    refine aw_goto (tgt := 2549) dL_law_2078 (by decide) ?_
    refine aw_sub [(5, .int (nI (3 * t))), (4, .ref 154), (3, .ref 153), (2, .ref 144), (1, .ref 31), (0, .ref 0)] (by simp) ?_
    exact hgo f2 bp1 n1 (s) _ _ ⟨hG2, ⟨I2, A2, hm2, hR2⟩, ⟨o1, (hE2 153 (by omega)).trans hu1⟩, ⟨od, (hE2 154 (by omega)).trans (hoth.trans hd)⟩, by omega, by omega⟩ (hSB.mono (by omega) (by omega)) (by omega) (by omega)
set_option maxHeartbeats 4000000 in
theorem lc_36 {l : Launch} {G : GT} {n0 t : Nat} {hh : List ExceptionTableEntry} {nm : String} (hG9 : gN G ≤ 1536) (ht : 3 * t + 2 < gN G) (ht9 : t < 512) (hgo : LGo l G n0 t hh nm) : LCase l G n0 t hh nm 2081 := by
  intro f bp n s nc ns hI hSB hnc hns
  obtain ⟨hW, ⟨I, A, hm, hR⟩, ⟨o, hl⟩, ⟨od, hd⟩, hn155, hbp⟩ := hI
  have hB := hSB.1
  have hc8 := hSB.2.1
  have hK9 : 30500 * t + 30500 < 16000000 := by omega
  obtain ⟨h0, ⟨J, B, hst, hS⟩, -, -, -, ⟨T1, hk1⟩, ⟨T4, hk4⟩, -, ⟨Lc, hcd, hcl, hcx⟩, hox, hbx⟩ := id hW
  have hcm : (qMean s.1).1 ≤ 3 := Nat.le_trans (m := 1) (by unfold qMean; (repeat' split) <;> exact Nat.le_of_ble_eq_true rfl) (by decide)
  refine aw_aload_n dL_law_2081 rfl rfl ?_
  refine aw_aload dL_law_2082 rfl ?_
  refine aw_sW (as := [Value.ref 31, Value.ref 154]) (rest := []) mW_L_meanAmplitude (w_meanAmplitude (l := l) (G := G) hW hSB hK9 (by omega) (by omega) (by omega) hd) ml_L_270 dL_law_2084 rfl rfl (by decide) (Nat.le_of_ble_eq_true rfl) ⟨by omega, by omega⟩ (fun _ _ _ h => by cases h.1) (fun r1 f1 n1 hn1 h => ?_)
  obtain ⟨g1, -, bp1, o1, hb1, hG, hu1, hv1, hF⟩ := h
  cases g1
  have hm1 := hm.fr (f := f1) (fun a _ _ => hF a (by omega) (by omega) (by omega) (by omega))
  have hoth := hF 153 (by omega) (by omega) (by omega) (by omega)
  refine aw_istore (L' := [(6, .int (nI ((qMean s.1).1))), (5, .int (nI (3 * t))), (4, .ref 154), (3, .ref 153), (2, .ref 144), (1, .ref 31), (0, .ref 0)]) dL_law_2087 (Nat.le_of_ble_eq_true rfl) rfl ?_
  refine aw_aload_n dL_law_2089 rfl rfl ?_
  have hq_m := m_meanAmplitude (l := l) (G := G) (n := n1) (f := f1) (o := 144) (I := I) (A := A) hR.1 hB
  rw [hm1.self] at hq_m
  refine aw_cP (as := []) (rest := []) (MV.c mV_X11_meanAmplitude) hq_m ml_L_273 (RC.w hm1.obj rfl) dL_law_2090 rfl rfl (by decide) (Nat.le_of_ble_eq_true rfl) ⟨by omega, by omega⟩ (fun _ _ _ h => by cases h.1) (fun r2 f2 n2 hn2 h => ?_)
  obtain ⟨g1, hf2, g2⟩ := h
  cases g1
  have g2 := g2.symm
  subst g2
  have h12 : (va_up I 12 (nI ((qMean s.1).1))) 12 = nI ((qMean s.1).1) := up_self
  have hR2 := hR.keep (I' := va_up I 12 (nI ((qMean s.1).1))) (A' := A) (fun k h _ _ => up_ne h) (fun _ _ _ _ => rfl)
  have hm2 : mAt f2 144 (va_up I 12 (nI ((qMean s.1).1))) A := by rw [hf2]; exact mAt.new
  have hE2 : ∀ a, (a < 144 ∨ 153 ≤ a) → f2 a = f1 a := fun a h => by rw [hf2]; exact rU_out (by omega)
  have hG2 := hG.fr (f := f2) (fun a _ _ => hE2 a (by omega)) (hE2 bp1 (by omega)) (Nat.le_refl _)
  refine aw_dstore (L' := [(7, .double ((qMean s.1).2)), (6, .int (nI ((qMean s.1).1))), (5, .int (nI (3 * t))), (4, .ref 154), (3, .ref 153), (2, .ref 144), (1, .ref 31), (0, .ref 0)]) dL_law_2093 (Nat.le_of_ble_eq_true rfl) rfl ?_
  refine aw_aload_n dL_law_2095 rfl rfl ?_
  have hq_t := m_thrown (l := l) (G := G) (n := n1) (f := f2) (o := 144) (A := A) h12
  rw [hm2.self] at hq_t
  refine aw_cI (as := []) (rest := []) (MV.c mV_X11_thrown) hq_t ml_L_155 (RC.w hm2.obj rfl) dL_law_2096 rfl rfl (by decide) (Nat.le_of_ble_eq_true rfl) ⟨by omega, by omega⟩ ?_
  refine aw_iload dL_law_2099 rfl ?_
  refine aw_icmp_eq (tgt := 2106) dL_law_2101 (by decide) (fun c_1 => ?_) (fun c_1 => by exfalso; exact c_1 rfl)
  refine aw_iload dL_law_2106 rfl ?_
  refine aw_if_ne (tgt := 2143) dL_law_2108 (by decide) (fun c_2 => ?_) (fun c_2 => ?_)
  · refine aw_goto (tgt := 2549) dL_law_2143 (by decide) ?_
    refine aw_sub [(5, .int (nI (3 * t))), (4, .ref 154), (3, .ref 153), (2, .ref 144), (1, .ref 31), (0, .ref 0)] (by simp) ?_
    exact hgo f2 bp1 n1 (s) _ _ ⟨hG2, ⟨_, _, hm2, hR2⟩, ⟨o, (hE2 153 (by omega)).trans (hoth.trans hl)⟩, ⟨o1, (hE2 154 (by omega)).trans hu1⟩, by omega, by omega⟩ (hSB.mono (by omega) (by omega)) (by omega) (by omega)
  · have hc0 := nI_0c hcm c_2
    refine aw_aload dL_law_2111 rfl ?_
    refine aw_iconst_n 0 dL_law_2113 (by decide) ?_
    refine aw_dald ((hE2 154 (by omega)).trans hu1) (vp_in_nI (by decide) (by decide)) dL_law_2114 ?_
    rw [nIc (by decide), hv1 hc0]
    refine aw_dload dL_law_2115 rfl ?_
    refine aw_dcmp dL_law_2117 ?_
    refine aw_if_eq (tgt := 2143) dL_law_2118 (by decide) (fun c_3 => ?_) (fun c_3 => ?_)
    · refine aw_goto (tgt := 2549) dL_law_2143 (by decide) ?_
      refine aw_sub [(5, .int (nI (3 * t))), (4, .ref 154), (3, .ref 153), (2, .ref 144), (1, .ref 31), (0, .ref 0)] (by simp) ?_
      exact hgo f2 bp1 n1 (s) _ _ ⟨hG2, ⟨_, _, hm2, hR2⟩, ⟨o, (hE2 153 (by omega)).trans (hoth.trans hl)⟩, ⟨o1, (hE2 154 (by omega)).trans hu1⟩, by omega, by omega⟩ (hSB.mono (by omega) (by omega)) (by omega) (by omega)
    · refine aw_aload dL_law_2121 rfl ?_
      refine aw_iconst_n 0 dL_law_2123 (by decide) ?_
      refine aw_dald ((hE2 154 (by omega)).trans hu1) (vp_in_nI (by decide) (by decide)) dL_law_2124 ?_
      rw [nIc (by decide), hv1 hc0]
      refine aw_aload dL_law_2125 rfl ?_
      refine aw_iconst_n 0 dL_law_2127 (by decide) ?_
      refine aw_dald ((hE2 154 (by omega)).trans hu1) (vp_in_nI (by decide) (by decide)) dL_law_2128 ?_
      rw [nIc (by decide), hv1 hc0]
      refine aw_dcmp dL_law_2129 ?_
      refine aw_if_eq (tgt := 2141) dL_law_2130 (by decide) (fun c_4 => by exfalso; exact c_3 c_4) (fun c_4 => ?_)
      refine aw_dload dL_law_2133 rfl ?_
      refine aw_dload dL_law_2135 rfl ?_
      refine aw_dcmp dL_law_2137 ?_
      refine aw_if_ne (tgt := 2143) dL_law_2138 (by decide) (fun c_5 => ?_) (fun c_5 => by exfalso; exact c_3 c_5)
      refine aw_goto (tgt := 2549) dL_law_2143 (by decide) ?_
      refine aw_sub [(5, .int (nI (3 * t))), (4, .ref 154), (3, .ref 153), (2, .ref 144), (1, .ref 31), (0, .ref 0)] (by simp) ?_
      exact hgo f2 bp1 n1 (s) _ _ ⟨hG2, ⟨_, _, hm2, hR2⟩, ⟨o, (hE2 153 (by omega)).trans (hoth.trans hl)⟩, ⟨o1, (hE2 154 (by omega)).trans hu1⟩, by omega, by omega⟩ (hSB.mono (by omega) (by omega)) (by omega) (by omega)
set_option maxHeartbeats 4000000 in
theorem lc_37 {l : Launch} {G : GT} {n0 t : Nat} {hh : List ExceptionTableEntry} {nm : String} (hG9 : gN G ≤ 1536) (ht : 3 * t + 2 < gN G) (ht9 : t < 512) (hgo : LGo l G n0 t hh nm) : LCase l G n0 t hh nm 2146 := by
  intro f bp n s nc ns hI hSB hnc hns
  obtain ⟨hW, ⟨I, A, hm, hR⟩, ⟨o, hl⟩, ⟨od, hd⟩, hn155, hbp⟩ := hI
  have hB := hSB.1
  have hc8 := hSB.2.1
  have hK9 : 30500 * t + 30500 < 16000000 := by omega
  obtain ⟨h0, ⟨J, B, hst, hS⟩, -, -, -, ⟨T1, hk1⟩, ⟨T4, hk4⟩, -, ⟨Lc, hcd, hcl, hcx⟩, hox, hbx⟩ := id hW
  have hcm : (qCard s.1 (gX G ((3 * t) + 1))).1 ≤ 3 := Nat.le_trans (m := 1) (by unfold qCard; (repeat' split) <;> exact Nat.le_of_ble_eq_true rfl) (by decide)
  refine aw_aload_n dL_law_2146 rfl rfl ?_
  refine aw_aload_n dL_law_2147 rfl rfl ?_
  refine aw_iload dL_law_2148 rfl ?_
  refine aw_iconst_n 1 dL_law_2150 (by decide) ?_
  refine aw_iadd_n dL_law_2151 ?_
  refine aw_sald (sc_in (by omega) hG9) dL_law_2152 ?_
  rw [nIc (by omega)]
  refine aw_aload_n dL_law_2153 rfl rfl ?_
  refine aw_sW (as := [Value.ref 31, Value.int (gX G ((3 * t) + 1)), Value.ref 153]) (rest := []) mW_L_writeCard (w_writeCard (l := l) (G := G) hW hSB hK9 (by omega) (by omega) (by omega) hl (gX G ((3 * t) + 1))) ml_L_274 dL_law_2154 rfl rfl (by decide) (Nat.le_of_ble_eq_true rfl) ⟨by omega, by omega⟩ (fun _ _ _ h => by cases h.1) (fun r1 f1 n1 hn1 h => ?_)
  obtain ⟨g1, -, bp1, o1, hb1, hG, hu1, hv1, hF⟩ := h
  cases g1
  have hm1 := hm.fr (f := f1) (fun a _ _ => hF a (by omega) (by omega) (by omega) (by omega))
  have hoth := hF 154 (by omega) (by omega) (by omega) (by omega)
  refine aw_istore (L' := [(6, .int (nI ((qCard s.1 (gX G ((3 * t) + 1))).1))), (5, .int (nI (3 * t))), (4, .ref 154), (3, .ref 153), (2, .ref 144), (1, .ref 31), (0, .ref 0)]) dL_law_2157 (Nat.le_of_ble_eq_true rfl) rfl ?_
  refine aw_aload_n dL_law_2159 rfl rfl ?_
  refine aw_aload_n dL_law_2160 rfl rfl ?_
  refine aw_iload dL_law_2161 rfl ?_
  refine aw_iconst_n 1 dL_law_2163 (by decide) ?_
  refine aw_iadd_n dL_law_2164 ?_
  refine aw_sald (sc_in (by omega) hG9) dL_law_2165 ?_
  rw [nIc (by omega)]
  have hq_m := m_writeCard (l := l) (G := G) (n := n1) (f := f1) (o := 144) (I := I) (A := A) hR rfl hB (gX G ((3 * t) + 1))
  rw [hm1.self] at hq_m
  refine aw_cP (as := [Value.int (gX G ((3 * t) + 1))]) (rest := []) (MV.c mV_X11_writeCard) hq_m ml_L_276 (RC.w hm1.obj rfl) dL_law_2166 rfl rfl (by decide) (Nat.le_of_ble_eq_true rfl) ⟨by omega, by omega⟩ (fun _ _ _ h => by cases h.1) (fun r2 f2 n2 hn2 h => ?_)
  obtain ⟨g1, g2, I2, A2, hf2, hR2, h12⟩ := h
  cases g1
  have g2 := g2.symm
  subst g2
  have hm2 : mAt f2 144 I2 A2 := by rw [hf2]; exact mAt.new
  have hE2 : ∀ a, (a < 144 ∨ 153 ≤ a) → f2 a = f1 a := fun a h => by rw [hf2]; exact rU_out (by omega)
  have hG2 := hG.fr (f := f2) (fun a _ _ => hE2 a (by omega)) (hE2 bp1 (by omega)) (Nat.le_refl _)
  refine aw_istore (L' := [(7, .int (nI (qCard s.1 (gX G ((3 * t) + 1))).2.length)), (6, .int (nI ((qCard s.1 (gX G ((3 * t) + 1))).1))), (5, .int (nI (3 * t))), (4, .ref 154), (3, .ref 153), (2, .ref 144), (1, .ref 31), (0, .ref 0)]) dL_law_2169 (Nat.le_of_ble_eq_true rfl) rfl ?_
  refine aw_aload_n dL_law_2171 rfl rfl ?_
  have hq_t := m_thrown (l := l) (G := G) (n := n1) (f := f2) (o := 144) (A := A2) h12
  rw [hm2.self] at hq_t
  refine aw_cI (as := []) (rest := []) (MV.c mV_X11_thrown) hq_t ml_L_155 (RC.w hm2.obj rfl) dL_law_2172 rfl rfl (by decide) (Nat.le_of_ble_eq_true rfl) ⟨by omega, by omega⟩ ?_
  refine aw_iload dL_law_2175 rfl ?_
  refine aw_icmp_eq (tgt := 2182) dL_law_2177 (by decide) (fun c_1 => ?_) (fun c_1 => by exfalso; exact c_1 rfl)
  refine aw_iload dL_law_2182 rfl ?_
  refine aw_if_ne (tgt := 2199) dL_law_2184 (by decide) (fun c_2 => ?_) (fun c_2 => ?_)
  · refine aw_goto (tgt := 2549) dL_law_2199 (by decide) ?_
    refine aw_sub [(5, .int (nI (3 * t))), (4, .ref 154), (3, .ref 153), (2, .ref 144), (1, .ref 31), (0, .ref 0)] (by simp) ?_
    exact hgo f2 bp1 n1 (cardS s (qCard s.1 (gX G ((3 * t) + 1)))) _ _ ⟨hG2, ⟨I2, A2, hm2, hR2⟩, ⟨o1, (hE2 153 (by omega)).trans hu1⟩, ⟨od, (hE2 154 (by omega)).trans (hoth.trans hd)⟩, by omega, by omega⟩ ((hSB.card (gX G ((3 * t) + 1))).mono (by omega) (by omega)) (by omega) (by omega)
  · have hc0 := nI_0c hcm c_2
    refine aw_aload_n dL_law_2187 rfl rfl ?_
    refine aw_iconst_n 0 dL_law_2188 (by decide) ?_
    refine aw_lald ((hE2 153 (by omega)).trans hu1) (vp_in_nI (by decide) (by decide)) dL_law_2189 ?_
    rw [nIc (by decide), hv1 hc0]
    refine aw_iload dL_law_2190 rfl ?_
    refine aw_i2l dL_law_2192 ?_
    refine aw_lcmp dL_law_2193 ?_
    refine aw_if_eq (tgt := 2199) dL_law_2194 (by decide) (fun c_3 => ?_) (fun c_3 => by exfalso; exact c_3 (lcmp_same _))
    refine aw_goto (tgt := 2549) dL_law_2199 (by decide) ?_
    refine aw_sub [(5, .int (nI (3 * t))), (4, .ref 154), (3, .ref 153), (2, .ref 144), (1, .ref 31), (0, .ref 0)] (by simp) ?_
    exact hgo f2 bp1 n1 (cardS s (qCard s.1 (gX G ((3 * t) + 1)))) _ _ ⟨hG2, ⟨I2, A2, hm2, hR2⟩, ⟨o1, (hE2 153 (by omega)).trans hu1⟩, ⟨od, (hE2 154 (by omega)).trans (hoth.trans hd)⟩, by omega, by omega⟩ ((hSB.card (gX G ((3 * t) + 1))).mono (by omega) (by omega)) (by omega) (by omega)
set_option maxHeartbeats 4000000 in
theorem lc_38 {l : Launch} {G : GT} {n0 t : Nat} {hh : List ExceptionTableEntry} {nm : String} (hG9 : gN G ≤ 1536) (ht : 3 * t + 2 < gN G) (ht9 : t < 512) (hgo : LGo l G n0 t hh nm) : LCase l G n0 t hh nm 2202 := by
  intro f bp n s nc ns hI hSB hnc hns
  obtain ⟨hW, ⟨I, A, hm, hR⟩, ⟨o, hl⟩, ⟨od, hd⟩, hn155, hbp⟩ := hI
  have hB := hSB.1
  have hc8 := hSB.2.1
  have hK9 : 30500 * t + 30500 < 16000000 := by omega
  obtain ⟨h0, ⟨J, B, hst, hS⟩, -, -, -, ⟨T1, hk1⟩, ⟨T4, hk4⟩, -, ⟨Lc, hcd, hcl, hcx⟩, hox, hbx⟩ := id hW
  have hcm : (qAt s (gX G ((3 * t) + 1))).1 ≤ 3 := Nat.le_trans (m := 1) (by unfold qAt; (repeat' split) <;> exact Nat.le_of_ble_eq_true rfl) (by decide)
  refine aw_aload_n dL_law_2202 rfl rfl ?_
  refine aw_aload_n dL_law_2203 rfl rfl ?_
  refine aw_iload dL_law_2204 rfl ?_
  refine aw_iconst_n 1 dL_law_2206 (by decide) ?_
  refine aw_iadd_n dL_law_2207 ?_
  refine aw_sald (sc_in (by omega) hG9) dL_law_2208 ?_
  rw [nIc (by omega)]
  refine aw_aload_n dL_law_2209 rfl rfl ?_
  refine aw_sW (as := [Value.ref 31, Value.int (gX G ((3 * t) + 1)), Value.ref 153]) (rest := []) mW_L_cardAt (w_cardAt (l := l) (G := G) hW hSB hK9 (by omega) (by omega) (by omega) hl (gX G ((3 * t) + 1))) ml_L_277 dL_law_2210 rfl rfl (by decide) (Nat.le_of_ble_eq_true rfl) ⟨by omega, by omega⟩ (fun _ _ _ h => by cases h.1) (fun r1 f1 n1 hn1 h => ?_)
  obtain ⟨g1, -, bp1, o1, hb1, hG, hu1, hv1, hF⟩ := h
  cases g1
  have hm1 := hm.fr (f := f1) (fun a _ _ => hF a (by omega) (by omega) (by omega) (by omega))
  have hoth := hF 154 (by omega) (by omega) (by omega) (by omega)
  refine aw_istore (L' := [(6, .int (nI ((qAt s (gX G ((3 * t) + 1))).1))), (5, .int (nI (3 * t))), (4, .ref 154), (3, .ref 153), (2, .ref 144), (1, .ref 31), (0, .ref 0)]) dL_law_2213 (Nat.le_of_ble_eq_true rfl) rfl ?_
  refine aw_aload_n dL_law_2215 rfl rfl ?_
  refine aw_aload_n dL_law_2216 rfl rfl ?_
  refine aw_iload dL_law_2217 rfl ?_
  refine aw_iconst_n 1 dL_law_2219 (by decide) ?_
  refine aw_iadd_n dL_law_2220 ?_
  refine aw_sald (sc_in (by omega) hG9) dL_law_2221 ?_
  rw [nIc (by omega)]
  have hq_m := m_cardAt (l := l) (G := G) (n := n1) (f := f1) (o := 144) (I := I) (A := A) hR hSB.2.2.2.2.2.2.1 hSB.2.2.2.2.2.2.2 (gX G ((3 * t) + 1))
  rw [hm1.self] at hq_m
  refine aw_cP (as := [Value.int (gX G ((3 * t) + 1))]) (rest := []) (MV.c mV_X11_cardAt) (RQ.pg hR hq_m) ml_L_279 (RC.w hm1.obj rfl) dL_law_2222 rfl rfl (by decide) (Nat.le_of_ble_eq_true rfl) ⟨by omega, by omega⟩ (fun _ _ _ h => by cases h.1) (fun r2 f2 n2 hn2 h => ?_)
  obtain ⟨g1, g2, I2, A2, hf2, hR2, h12⟩ := h
  cases g1
  have g2 := g2.symm
  subst g2
  have hm2 : mAt f2 144 I2 A2 := by rw [hf2]; exact mAt.new
  have hE2 : ∀ a, (a < 144 ∨ 153 ≤ a) → f2 a = f1 a := fun a h => by rw [hf2]; exact rU_out (by omega)
  have hG2 := hG.fr (f := f2) (fun a _ _ => hE2 a (by omega)) (hE2 bp1 (by omega)) (Nat.le_refl _)
  refine aw_istore (L' := [(7, .int (nI (qAt s (gX G ((3 * t) + 1))).2)), (6, .int (nI ((qAt s (gX G ((3 * t) + 1))).1))), (5, .int (nI (3 * t))), (4, .ref 154), (3, .ref 153), (2, .ref 144), (1, .ref 31), (0, .ref 0)]) dL_law_2225 (Nat.le_of_ble_eq_true rfl) rfl ?_
  refine aw_aload_n dL_law_2227 rfl rfl ?_
  have hq_t := m_thrown (l := l) (G := G) (n := n1) (f := f2) (o := 144) (A := A2) h12
  rw [hm2.self] at hq_t
  refine aw_cI (as := []) (rest := []) (MV.c mV_X11_thrown) hq_t ml_L_155 (RC.w hm2.obj rfl) dL_law_2228 rfl rfl (by decide) (Nat.le_of_ble_eq_true rfl) ⟨by omega, by omega⟩ ?_
  refine aw_iload dL_law_2231 rfl ?_
  refine aw_icmp_eq (tgt := 2238) dL_law_2233 (by decide) (fun c_1 => ?_) (fun c_1 => by exfalso; exact c_1 rfl)
  refine aw_iload dL_law_2238 rfl ?_
  refine aw_if_ne (tgt := 2255) dL_law_2240 (by decide) (fun c_2 => ?_) (fun c_2 => ?_)
  · refine aw_goto (tgt := 2549) dL_law_2255 (by decide) ?_
    refine aw_sub [(5, .int (nI (3 * t))), (4, .ref 154), (3, .ref 153), (2, .ref 144), (1, .ref 31), (0, .ref 0)] (by simp) ?_
    exact hgo f2 bp1 n1 (s) _ _ ⟨hG2, ⟨I2, A2, hm2, hR2⟩, ⟨o1, (hE2 153 (by omega)).trans hu1⟩, ⟨od, (hE2 154 (by omega)).trans (hoth.trans hd)⟩, by omega, by omega⟩ (hSB.mono (by omega) (by omega)) (by omega) (by omega)
  · have hc0 := nI_0c hcm c_2
    refine aw_aload_n dL_law_2243 rfl rfl ?_
    refine aw_iconst_n 0 dL_law_2244 (by decide) ?_
    refine aw_lald ((hE2 153 (by omega)).trans hu1) (vp_in_nI (by decide) (by decide)) dL_law_2245 ?_
    rw [nIc (by decide), hv1 hc0]
    refine aw_iload dL_law_2246 rfl ?_
    refine aw_i2l dL_law_2248 ?_
    refine aw_lcmp dL_law_2249 ?_
    refine aw_if_eq (tgt := 2255) dL_law_2250 (by decide) (fun c_3 => ?_) (fun c_3 => by exfalso; exact c_3 (lcmp_same _))
    refine aw_goto (tgt := 2549) dL_law_2255 (by decide) ?_
    refine aw_sub [(5, .int (nI (3 * t))), (4, .ref 154), (3, .ref 153), (2, .ref 144), (1, .ref 31), (0, .ref 0)] (by simp) ?_
    exact hgo f2 bp1 n1 (s) _ _ ⟨hG2, ⟨I2, A2, hm2, hR2⟩, ⟨o1, (hE2 153 (by omega)).trans hu1⟩, ⟨od, (hE2 154 (by omega)).trans (hoth.trans hd)⟩, by omega, by omega⟩ (hSB.mono (by omega) (by omega)) (by omega) (by omega)
set_option maxHeartbeats 4000000 in
theorem lc_39 {l : Launch} {G : GT} {n0 t : Nat} {hh : List ExceptionTableEntry} {nm : String} (hG9 : gN G ≤ 1536) (ht : 3 * t + 2 < gN G) (ht9 : t < 512) (hgo : LGo l G n0 t hh nm) : LCase l G n0 t hh nm 2258 := by
  intro f bp n s nc ns hI hSB hnc hns
  obtain ⟨hW, ⟨I, A, hm, hR⟩, ⟨o, hl⟩, ⟨od, hd⟩, hn155, hbp⟩ := hI
  have hB := hSB.1
  have hc8 := hSB.2.1
  have hK9 : 30500 * t + 30500 < 16000000 := by omega
  obtain ⟨h0, ⟨J, B, hst, hS⟩, -, -, -, ⟨T1, hk1⟩, ⟨T4, hk4⟩, -, ⟨Lc, hcd, hcl, hcx⟩, hox, hbx⟩ := id hW
  have hcm : (qType s ((gX G ((3 * t) + 1)).toUInt32 % 65536).toInt32).1 ≤ 3 := Nat.le_trans (m := 2) (by unfold qType; (repeat' split) <;> exact Nat.le_of_ble_eq_true rfl) (by decide)
  refine aw_aload_n dL_law_2258 rfl rfl ?_
  refine aw_aload_n dL_law_2259 rfl rfl ?_
  refine aw_iload dL_law_2260 rfl ?_
  refine aw_iconst_n 1 dL_law_2262 (by decide) ?_
  refine aw_iadd_n dL_law_2263 ?_
  refine aw_sald (sc_in (by omega) hG9) dL_law_2264 ?_
  rw [nIc (by omega)]
  refine aw_i2c dL_law_2265 ?_
  refine aw_aload_n dL_law_2266 rfl rfl ?_
  refine aw_sW (as := [Value.ref 31, Value.int (((gX G ((3 * t) + 1)).toUInt32 % 65536).toInt32), Value.ref 153]) (rest := []) mW_L_type (w_type (l := l) (G := G) hW hSB hK9 (by omega) (by omega) (by omega) hl ((gX G ((3 * t) + 1)).toUInt32 % 65536).toInt32) ml_L_280 dL_law_2267 rfl rfl (by decide) (Nat.le_of_ble_eq_true rfl) ⟨by omega, by omega⟩ (fun _ _ _ h => by cases h.1) (fun r1 f1 n1 hn1 h => ?_)
  obtain ⟨g1, -, bp1, o1, hb1, hG, hu1, hv1, hF⟩ := h
  cases g1
  have hm1 := hm.fr (f := f1) (fun a _ _ => hF a (by omega) (by omega) (by omega) (by omega))
  have hoth := hF 154 (by omega) (by omega) (by omega) (by omega)
  refine aw_istore (L' := [(6, .int (nI ((qType s ((gX G ((3 * t) + 1)).toUInt32 % 65536).toInt32).1))), (5, .int (nI (3 * t))), (4, .ref 154), (3, .ref 153), (2, .ref 144), (1, .ref 31), (0, .ref 0)]) dL_law_2270 (Nat.le_of_ble_eq_true rfl) rfl ?_
  refine aw_aload_n dL_law_2272 rfl rfl ?_
  refine aw_aload_n dL_law_2273 rfl rfl ?_
  refine aw_iload dL_law_2274 rfl ?_
  refine aw_iconst_n 1 dL_law_2276 (by decide) ?_
  refine aw_iadd_n dL_law_2277 ?_
  refine aw_sald (sc_in (by omega) hG9) dL_law_2278 ?_
  rw [nIc (by omega)]
  refine aw_i2c dL_law_2279 ?_
  have hq_m := m_type (l := l) (G := G) (n := n1) (f := f1) (o := 144) (I := I) (A := A) hR hSB.2.2.2.2.1 ((gX G ((3 * t) + 1)).toUInt32 % 65536).toInt32
  rw [hm1.self] at hq_m
  refine aw_cP (as := [Value.int (((gX G ((3 * t) + 1)).toUInt32 % 65536).toInt32)]) (rest := []) (MV.c mV_X11_type) hq_m ml_L_283 (RC.w hm1.obj rfl) dL_law_2280 rfl rfl (by decide) (Nat.le_of_ble_eq_true rfl) ⟨by omega, by omega⟩ (fun _ _ _ h => by cases h.1) (fun r2 f2 n2 hn2 h => ?_)
  obtain ⟨g1, g2, I2, A2, hf2, hR2, h12⟩ := h
  cases g1
  have g2 := g2.symm
  subst g2
  have hm2 : mAt f2 144 I2 A2 := by rw [hf2]; exact mAt.new
  have hE2 : ∀ a, (a < 144 ∨ 153 ≤ a) → f2 a = f1 a := fun a h => by rw [hf2]; exact rU_out (by omega)
  have hG2 := hG.fr (f := f2) (fun a _ _ => hE2 a (by omega)) (hE2 bp1 (by omega)) (Nat.le_refl _)
  refine aw_istore (L' := [(7, .int (nI (qType s ((gX G ((3 * t) + 1)).toUInt32 % 65536).toInt32).2)), (6, .int (nI ((qType s ((gX G ((3 * t) + 1)).toUInt32 % 65536).toInt32).1))), (5, .int (nI (3 * t))), (4, .ref 154), (3, .ref 153), (2, .ref 144), (1, .ref 31), (0, .ref 0)]) dL_law_2283 (Nat.le_of_ble_eq_true rfl) rfl ?_
  refine aw_aload_n dL_law_2285 rfl rfl ?_
  have hq_t := m_thrown (l := l) (G := G) (n := n1) (f := f2) (o := 144) (A := A2) h12
  rw [hm2.self] at hq_t
  refine aw_cI (as := []) (rest := []) (MV.c mV_X11_thrown) hq_t ml_L_155 (RC.w hm2.obj rfl) dL_law_2286 rfl rfl (by decide) (Nat.le_of_ble_eq_true rfl) ⟨by omega, by omega⟩ ?_
  refine aw_iload dL_law_2289 rfl ?_
  refine aw_icmp_eq (tgt := 2296) dL_law_2291 (by decide) (fun c_1 => ?_) (fun c_1 => by exfalso; exact c_1 rfl)
  refine aw_iload dL_law_2296 rfl ?_
  refine aw_if_ne (tgt := 2313) dL_law_2298 (by decide) (fun c_2 => ?_) (fun c_2 => ?_)
  · refine aw_goto (tgt := 2549) dL_law_2313 (by decide) ?_
    refine aw_sub [(5, .int (nI (3 * t))), (4, .ref 154), (3, .ref 153), (2, .ref 144), (1, .ref 31), (0, .ref 0)] (by simp) ?_
    exact hgo f2 bp1 n1 (typS s ((gX G ((3 * t) + 1)).toUInt32 % 65536).toInt32) _ _ ⟨hG2, ⟨I2, A2, hm2, hR2⟩, ⟨o1, (hE2 153 (by omega)).trans hu1⟩, ⟨od, (hE2 154 (by omega)).trans (hoth.trans hd)⟩, by omega, by omega⟩ ((hSB.typ ((gX G ((3 * t) + 1)).toUInt32 % 65536).toInt32).mono (by omega) (by omega)) (by omega) (by omega)
  · have hc0 := nI_0c hcm c_2
    refine aw_aload_n dL_law_2301 rfl rfl ?_
    refine aw_iconst_n 0 dL_law_2302 (by decide) ?_
    refine aw_lald ((hE2 153 (by omega)).trans hu1) (vp_in_nI (by decide) (by decide)) dL_law_2303 ?_
    rw [nIc (by decide), hv1 hc0]
    refine aw_iload dL_law_2304 rfl ?_
    refine aw_i2l dL_law_2306 ?_
    refine aw_lcmp dL_law_2307 ?_
    refine aw_if_eq (tgt := 2313) dL_law_2308 (by decide) (fun c_3 => ?_) (fun c_3 => by exfalso; exact c_3 (lcmp_same _))
    refine aw_goto (tgt := 2549) dL_law_2313 (by decide) ?_
    refine aw_sub [(5, .int (nI (3 * t))), (4, .ref 154), (3, .ref 153), (2, .ref 144), (1, .ref 31), (0, .ref 0)] (by simp) ?_
    exact hgo f2 bp1 n1 (typS s ((gX G ((3 * t) + 1)).toUInt32 % 65536).toInt32) _ _ ⟨hG2, ⟨I2, A2, hm2, hR2⟩, ⟨o1, (hE2 153 (by omega)).trans hu1⟩, ⟨od, (hE2 154 (by omega)).trans (hoth.trans hd)⟩, by omega, by omega⟩ ((hSB.typ ((gX G ((3 * t) + 1)).toUInt32 % 65536).toInt32).mono (by omega) (by omega)) (by omega) (by omega)
set_option maxHeartbeats 4000000 in
theorem lc_40 {l : Launch} {G : GT} {n0 t : Nat} {hh : List ExceptionTableEntry} {nm : String} (hG9 : gN G ≤ 1536) (ht : 3 * t + 2 < gN G) (ht9 : t < 512) (hgo : LGo l G n0 t hh nm) : LCase l G n0 t hh nm 2316 := by
  intro f bp n s nc ns hI hSB hnc hns
  obtain ⟨hW, ⟨I, A, hm, hR⟩, ⟨o, hl⟩, ⟨od, hd⟩, hn155, hbp⟩ := hI
  have hB := hSB.1
  have hc8 := hSB.2.1
  have hK9 : 30500 * t + 30500 < 16000000 := by omega
  obtain ⟨h0, ⟨J, B, hst, hS⟩, -, -, -, ⟨T1, hk1⟩, ⟨T4, hk4⟩, -, ⟨Lc, hcd, hcl, hcx⟩, hox, hbx⟩ := id hW
  have hcm : (qExe s).1 ≤ 3 := Nat.le_trans (m := 2) (by unfold qExe exT exR; (repeat' split) <;> exact Nat.le_of_ble_eq_true rfl) (by decide)
  refine aw_aload_n dL_law_2316 rfl rfl ?_
  refine aw_aload_n dL_law_2317 rfl rfl ?_
  refine aw_sW (as := [Value.ref 31, Value.ref 153]) (rest := []) mW_L_execute (w_execute (l := l) (G := G) hW hSB hK9 (by omega) (by omega) (by omega) hl) ml_L_284 dL_law_2318 rfl rfl (by decide) (Nat.le_of_ble_eq_true rfl) ⟨by omega, by omega⟩ (fun _ _ _ h => by cases h.1) (fun r1 f1 n1 hn1 h => ?_)
  obtain ⟨g1, -, bp1, o1, hb1, hG, hu1, hv1, hF⟩ := h
  cases g1
  have hm1 := hm.fr (f := f1) (fun a _ _ => hF a (by omega) (by omega) (by omega) (by omega))
  have hoth := hF 154 (by omega) (by omega) (by omega) (by omega)
  refine aw_istore (L' := [(6, .int (nI ((qExe s).1))), (5, .int (nI (3 * t))), (4, .ref 154), (3, .ref 153), (2, .ref 144), (1, .ref 31), (0, .ref 0)]) dL_law_2321 (Nat.le_of_ble_eq_true rfl) rfl ?_
  refine aw_aload_n dL_law_2323 rfl rfl ?_
  have hq_m := m_execute (l := l) (G := G) (n := n1) (f := f1) (o := 144) (I := I) (A := A) hR hc8 hSB.2.2.2.2.1 hSB.2.2.2.2.2.1 (by omega) hB
  rw [hm1.self] at hq_m
  refine aw_cP (as := []) (rest := []) (MV.c mV_X11_execute) hq_m ml_L_286 (RC.w hm1.obj rfl) dL_law_2324 rfl rfl (by decide) (Nat.le_of_ble_eq_true rfl) ⟨by omega, by omega⟩ (fun _ _ _ h => by cases h.1) (fun r2 f2 n2 hn2 h => ?_)
  obtain ⟨g1, g2, I2, A2, hf2, hR2, h12⟩ := h
  cases g1
  have g2 := g2.symm
  subst g2
  have hm2 : mAt f2 144 I2 A2 := by rw [hf2]; exact mAt.new
  have hE2 : ∀ a, (a < 144 ∨ 153 ≤ a) → f2 a = f1 a := fun a h => by rw [hf2]; exact rU_out (by omega)
  have hG2 := hG.fr (f := f2) (fun a _ _ => hE2 a (by omega)) (hE2 bp1 (by omega)) (Nat.le_refl _)
  refine aw_istore (L' := [(7, .int (nI (qExe s).2.1)), (6, .int (nI ((qExe s).1))), (5, .int (nI (3 * t))), (4, .ref 154), (3, .ref 153), (2, .ref 144), (1, .ref 31), (0, .ref 0)]) dL_law_2327 (Nat.le_of_ble_eq_true rfl) rfl ?_
  refine aw_aload_n dL_law_2329 rfl rfl ?_
  have hq_t := m_thrown (l := l) (G := G) (n := n1) (f := f2) (o := 144) (A := A2) h12
  rw [hm2.self] at hq_t
  refine aw_cI (as := []) (rest := []) (MV.c mV_X11_thrown) hq_t ml_L_155 (RC.w hm2.obj rfl) dL_law_2330 rfl rfl (by decide) (Nat.le_of_ble_eq_true rfl) ⟨by omega, by omega⟩ ?_
  refine aw_iload dL_law_2333 rfl ?_
  refine aw_icmp_eq (tgt := 2340) dL_law_2335 (by decide) (fun c_1 => ?_) (fun c_1 => by exfalso; exact c_1 rfl)
  refine aw_iload dL_law_2340 rfl ?_
  refine aw_if_ne (tgt := 2357) dL_law_2342 (by decide) (fun c_2 => ?_) (fun c_2 => ?_)
  · refine aw_goto (tgt := 2549) dL_law_2357 (by decide) ?_
    refine aw_sub [(5, .int (nI (3 * t))), (4, .ref 154), (3, .ref 153), (2, .ref 144), (1, .ref 31), (0, .ref 0)] (by simp) ?_
    exact hgo f2 bp1 n1 ((qExe s).2.2) _ _ ⟨hG2, ⟨I2, A2, hm2, hR2⟩, ⟨o1, (hE2 153 (by omega)).trans hu1⟩, ⟨od, (hE2 154 (by omega)).trans (hoth.trans hd)⟩, by omega, by omega⟩ (by rw [show 30500 * (t + 1) = 30500 * t + 30500 by omega]; exact hSB.exe hK9) (by omega) (by omega)
  · have hc0 := nI_0c hcm c_2
    refine aw_aload_n dL_law_2345 rfl rfl ?_
    refine aw_iconst_n 0 dL_law_2346 (by decide) ?_
    refine aw_lald ((hE2 153 (by omega)).trans hu1) (vp_in_nI (by decide) (by decide)) dL_law_2347 ?_
    rw [nIc (by decide), hv1 hc0]
    refine aw_iload dL_law_2348 rfl ?_
    refine aw_i2l dL_law_2350 ?_
    refine aw_lcmp dL_law_2351 ?_
    refine aw_if_eq (tgt := 2357) dL_law_2352 (by decide) (fun c_3 => ?_) (fun c_3 => by exfalso; exact c_3 (lcmp_same _))
    refine aw_goto (tgt := 2549) dL_law_2357 (by decide) ?_
    refine aw_sub [(5, .int (nI (3 * t))), (4, .ref 154), (3, .ref 153), (2, .ref 144), (1, .ref 31), (0, .ref 0)] (by simp) ?_
    exact hgo f2 bp1 n1 ((qExe s).2.2) _ _ ⟨hG2, ⟨I2, A2, hm2, hR2⟩, ⟨o1, (hE2 153 (by omega)).trans hu1⟩, ⟨od, (hE2 154 (by omega)).trans (hoth.trans hd)⟩, by omega, by omega⟩ (by rw [show 30500 * (t + 1) = 30500 * t + 30500 by omega]; exact hSB.exe hK9) (by omega) (by omega)
set_option maxHeartbeats 4000000 in
theorem lc_41 {l : Launch} {G : GT} {n0 t : Nat} {hh : List ExceptionTableEntry} {nm : String} (hG9 : gN G ≤ 1536) (ht : 3 * t + 2 < gN G) (ht9 : t < 512) (hgo : LGo l G n0 t hh nm) : LCase l G n0 t hh nm 2360 := by
  intro f bp n s nc ns hI hSB hnc hns
  obtain ⟨hW, ⟨I, A, hm, hR⟩, ⟨o, hl⟩, ⟨od, hd⟩, hn155, hbp⟩ := hI
  have hB := hSB.1
  have hc8 := hSB.2.1
  have hK9 : 30500 * t + 30500 < 16000000 := by omega
  obtain ⟨h0, ⟨J, B, hst, hS⟩, -, -, -, ⟨T1, hk1⟩, ⟨T4, hk4⟩, -, ⟨Lc, hcd, hcl, hcx⟩, hox, hbx⟩ := id hW
  have hcm : (qE s.2.2.2.2.1.1).1 ≤ 3 := Nat.le_trans (m := 1) (by unfold qE; (repeat' split) <;> exact Nat.le_of_ble_eq_true rfl) (by decide)
  refine aw_aload_n dL_law_2360 rfl rfl ?_
  refine aw_aload_n dL_law_2361 rfl rfl ?_
  refine aw_sW (as := [Value.ref 31, Value.ref 153]) (rest := []) mW_L_errorPosition (w_errorPosition (l := l) (G := G) hW hSB hK9 (by omega) (by omega) (by omega) hl) ml_L_287 dL_law_2362 rfl rfl (by decide) (Nat.le_of_ble_eq_true rfl) ⟨by omega, by omega⟩ (fun _ _ _ h => by cases h.1) (fun r1 f1 n1 hn1 h => ?_)
  obtain ⟨g1, -, bp1, o1, hb1, hG, hu1, hv1, hF⟩ := h
  cases g1
  have hm1 := hm.fr (f := f1) (fun a _ _ => hF a (by omega) (by omega) (by omega) (by omega))
  have hoth := hF 154 (by omega) (by omega) (by omega) (by omega)
  refine aw_istore (L' := [(6, .int (nI ((qE s.2.2.2.2.1.1).1))), (5, .int (nI (3 * t))), (4, .ref 154), (3, .ref 153), (2, .ref 144), (1, .ref 31), (0, .ref 0)]) dL_law_2365 (Nat.le_of_ble_eq_true rfl) rfl ?_
  refine aw_aload_n dL_law_2367 rfl rfl ?_
  have hq_m := m_errorPosition (l := l) (G := G) (n := n1) (f := f1) (o := 144) (I := I) (A := A) hR
  rw [hm1.self] at hq_m
  refine aw_cP (as := []) (rest := []) (MV.c mV_X11_errorPosition) hq_m ml_L_289 (RC.w hm1.obj rfl) dL_law_2368 rfl rfl (by decide) (Nat.le_of_ble_eq_true rfl) ⟨by omega, by omega⟩ (fun _ _ _ h => by cases h.1) (fun r2 f2 n2 hn2 h => ?_)
  obtain ⟨g1, g2, I2, A2, hf2, hR2, h12⟩ := h
  cases g1
  have g2 := g2.symm
  subst g2
  have hm2 : mAt f2 144 I2 A2 := by rw [hf2]; exact mAt.new
  have hE2 : ∀ a, (a < 144 ∨ 153 ≤ a) → f2 a = f1 a := fun a h => by rw [hf2]; exact rU_out (by omega)
  have hG2 := hG.fr (f := f2) (fun a _ _ => hE2 a (by omega)) (hE2 bp1 (by omega)) (Nat.le_refl _)
  refine aw_istore (L' := [(7, .int ((qE s.2.2.2.2.1.1).2)), (6, .int (nI ((qE s.2.2.2.2.1.1).1))), (5, .int (nI (3 * t))), (4, .ref 154), (3, .ref 153), (2, .ref 144), (1, .ref 31), (0, .ref 0)]) dL_law_2371 (Nat.le_of_ble_eq_true rfl) rfl ?_
  refine aw_aload_n dL_law_2373 rfl rfl ?_
  have hq_t := m_thrown (l := l) (G := G) (n := n1) (f := f2) (o := 144) (A := A2) h12
  rw [hm2.self] at hq_t
  refine aw_cI (as := []) (rest := []) (MV.c mV_X11_thrown) hq_t ml_L_155 (RC.w hm2.obj rfl) dL_law_2374 rfl rfl (by decide) (Nat.le_of_ble_eq_true rfl) ⟨by omega, by omega⟩ ?_
  refine aw_iload dL_law_2377 rfl ?_
  refine aw_icmp_eq (tgt := 2384) dL_law_2379 (by decide) (fun c_1 => ?_) (fun c_1 => by exfalso; exact c_1 rfl)
  refine aw_iload dL_law_2384 rfl ?_
  refine aw_if_ne (tgt := 2401) dL_law_2386 (by decide) (fun c_2 => ?_) (fun c_2 => ?_)
  · refine aw_goto (tgt := 2549) dL_law_2401 (by decide) ?_
    refine aw_sub [(5, .int (nI (3 * t))), (4, .ref 154), (3, .ref 153), (2, .ref 144), (1, .ref 31), (0, .ref 0)] (by simp) ?_
    exact hgo f2 bp1 n1 (s) _ _ ⟨hG2, ⟨I2, A2, hm2, hR2⟩, ⟨o1, (hE2 153 (by omega)).trans hu1⟩, ⟨od, (hE2 154 (by omega)).trans (hoth.trans hd)⟩, by omega, by omega⟩ (hSB.mono (by omega) (by omega)) (by omega) (by omega)
  · have hc0 := nI_0c hcm c_2
    refine aw_aload_n dL_law_2389 rfl rfl ?_
    refine aw_iconst_n 0 dL_law_2390 (by decide) ?_
    refine aw_lald ((hE2 153 (by omega)).trans hu1) (vp_in_nI (by decide) (by decide)) dL_law_2391 ?_
    rw [nIc (by decide), hv1 hc0]
    refine aw_iload dL_law_2392 rfl ?_
    refine aw_i2l dL_law_2394 ?_
    refine aw_lcmp dL_law_2395 ?_
    refine aw_if_eq (tgt := 2401) dL_law_2396 (by decide) (fun c_3 => ?_) (fun c_3 => by exfalso; exact c_3 (lcmp_same _))
    refine aw_goto (tgt := 2549) dL_law_2401 (by decide) ?_
    refine aw_sub [(5, .int (nI (3 * t))), (4, .ref 154), (3, .ref 153), (2, .ref 144), (1, .ref 31), (0, .ref 0)] (by simp) ?_
    exact hgo f2 bp1 n1 (s) _ _ ⟨hG2, ⟨I2, A2, hm2, hR2⟩, ⟨o1, (hE2 153 (by omega)).trans hu1⟩, ⟨od, (hE2 154 (by omega)).trans (hoth.trans hd)⟩, by omega, by omega⟩ (hSB.mono (by omega) (by omega)) (by omega) (by omega)
set_option maxHeartbeats 4000000 in
theorem lc_42 {l : Launch} {G : GT} {n0 t : Nat} {hh : List ExceptionTableEntry} {nm : String} (hG9 : gN G ≤ 1536) (ht : 3 * t + 2 < gN G) (ht9 : t < 512) (hgo : LGo l G n0 t hh nm) : LCase l G n0 t hh nm 2404 := by
  intro f bp n s nc ns hI hSB hnc hns
  obtain ⟨hW, ⟨I, A, hm, hR⟩, ⟨o, hl⟩, ⟨od, hd⟩, hn155, hbp⟩ := hI
  have hB := hSB.1
  have hc8 := hSB.2.1
  have hK9 : 30500 * t + 30500 < 16000000 := by omega
  obtain ⟨h0, ⟨J, B, hst, hS⟩, -, -, -, ⟨T1, hk1⟩, ⟨T4, hk4⟩, -, ⟨Lc, hcd, hcl, hcx⟩, hox, hbx⟩ := id hW
  have hcm : (qE s.2.2.2.2.1.2).1 ≤ 3 := Nat.le_trans (m := 1) (by unfold qE; (repeat' split) <;> exact Nat.le_of_ble_eq_true rfl) (by decide)
  refine aw_aload_n dL_law_2404 rfl rfl ?_
  refine aw_aload_n dL_law_2405 rfl rfl ?_
  refine aw_sW (as := [Value.ref 31, Value.ref 153]) (rest := []) mW_L_failedCommand (w_failedCommand (l := l) (G := G) hW hSB hK9 (by omega) (by omega) (by omega) hl) ml_L_290 dL_law_2406 rfl rfl (by decide) (Nat.le_of_ble_eq_true rfl) ⟨by omega, by omega⟩ (fun _ _ _ h => by cases h.1) (fun r1 f1 n1 hn1 h => ?_)
  obtain ⟨g1, -, bp1, o1, hb1, hG, hu1, hv1, hF⟩ := h
  cases g1
  have hm1 := hm.fr (f := f1) (fun a _ _ => hF a (by omega) (by omega) (by omega) (by omega))
  have hoth := hF 154 (by omega) (by omega) (by omega) (by omega)
  refine aw_istore (L' := [(6, .int (nI ((qE s.2.2.2.2.1.2).1))), (5, .int (nI (3 * t))), (4, .ref 154), (3, .ref 153), (2, .ref 144), (1, .ref 31), (0, .ref 0)]) dL_law_2409 (Nat.le_of_ble_eq_true rfl) rfl ?_
  refine aw_aload_n dL_law_2411 rfl rfl ?_
  have hq_m := m_failedCommand (l := l) (G := G) (n := n1) (f := f1) (o := 144) (I := I) (A := A) hR
  rw [hm1.self] at hq_m
  refine aw_cP (as := []) (rest := []) (MV.c mV_X11_failedCommand) hq_m ml_L_292 (RC.w hm1.obj rfl) dL_law_2412 rfl rfl (by decide) (Nat.le_of_ble_eq_true rfl) ⟨by omega, by omega⟩ (fun _ _ _ h => by cases h.1) (fun r2 f2 n2 hn2 h => ?_)
  obtain ⟨g1, g2, I2, A2, hf2, hR2, h12⟩ := h
  cases g1
  have g2 := g2.symm
  subst g2
  have hm2 : mAt f2 144 I2 A2 := by rw [hf2]; exact mAt.new
  have hE2 : ∀ a, (a < 144 ∨ 153 ≤ a) → f2 a = f1 a := fun a h => by rw [hf2]; exact rU_out (by omega)
  have hG2 := hG.fr (f := f2) (fun a _ _ => hE2 a (by omega)) (hE2 bp1 (by omega)) (Nat.le_refl _)
  refine aw_istore (L' := [(7, .int ((qE s.2.2.2.2.1.2).2)), (6, .int (nI ((qE s.2.2.2.2.1.2).1))), (5, .int (nI (3 * t))), (4, .ref 154), (3, .ref 153), (2, .ref 144), (1, .ref 31), (0, .ref 0)]) dL_law_2415 (Nat.le_of_ble_eq_true rfl) rfl ?_
  refine aw_aload_n dL_law_2417 rfl rfl ?_
  have hq_t := m_thrown (l := l) (G := G) (n := n1) (f := f2) (o := 144) (A := A2) h12
  rw [hm2.self] at hq_t
  refine aw_cI (as := []) (rest := []) (MV.c mV_X11_thrown) hq_t ml_L_155 (RC.w hm2.obj rfl) dL_law_2418 rfl rfl (by decide) (Nat.le_of_ble_eq_true rfl) ⟨by omega, by omega⟩ ?_
  refine aw_iload dL_law_2421 rfl ?_
  refine aw_icmp_eq (tgt := 2428) dL_law_2423 (by decide) (fun c_1 => ?_) (fun c_1 => by exfalso; exact c_1 rfl)
  refine aw_iload dL_law_2428 rfl ?_
  refine aw_if_ne (tgt := 2445) dL_law_2430 (by decide) (fun c_2 => ?_) (fun c_2 => ?_)
  · refine aw_goto (tgt := 2549) dL_law_2445 (by decide) ?_
    refine aw_sub [(5, .int (nI (3 * t))), (4, .ref 154), (3, .ref 153), (2, .ref 144), (1, .ref 31), (0, .ref 0)] (by simp) ?_
    exact hgo f2 bp1 n1 (s) _ _ ⟨hG2, ⟨I2, A2, hm2, hR2⟩, ⟨o1, (hE2 153 (by omega)).trans hu1⟩, ⟨od, (hE2 154 (by omega)).trans (hoth.trans hd)⟩, by omega, by omega⟩ (hSB.mono (by omega) (by omega)) (by omega) (by omega)
  · have hc0 := nI_0c hcm c_2
    refine aw_aload_n dL_law_2433 rfl rfl ?_
    refine aw_iconst_n 0 dL_law_2434 (by decide) ?_
    refine aw_lald ((hE2 153 (by omega)).trans hu1) (vp_in_nI (by decide) (by decide)) dL_law_2435 ?_
    rw [nIc (by decide), hv1 hc0]
    refine aw_iload dL_law_2436 rfl ?_
    refine aw_i2l dL_law_2438 ?_
    refine aw_lcmp dL_law_2439 ?_
    refine aw_if_eq (tgt := 2445) dL_law_2440 (by decide) (fun c_3 => ?_) (fun c_3 => by exfalso; exact c_3 (lcmp_same _))
    refine aw_goto (tgt := 2549) dL_law_2445 (by decide) ?_
    refine aw_sub [(5, .int (nI (3 * t))), (4, .ref 154), (3, .ref 153), (2, .ref 144), (1, .ref 31), (0, .ref 0)] (by simp) ?_
    exact hgo f2 bp1 n1 (s) _ _ ⟨hG2, ⟨I2, A2, hm2, hR2⟩, ⟨o1, (hE2 153 (by omega)).trans hu1⟩, ⟨od, (hE2 154 (by omega)).trans (hoth.trans hd)⟩, by omega, by omega⟩ (hSB.mono (by omega) (by omega)) (by omega) (by omega)
set_option maxHeartbeats 4000000 in
theorem lc_43 {l : Launch} {G : GT} {n0 t : Nat} {hh : List ExceptionTableEntry} {nm : String} (hG9 : gN G ≤ 1536) (ht : 3 * t + 2 < gN G) (ht9 : t < 512) (hgo : LGo l G n0 t hh nm) : LCase l G n0 t hh nm 2448 := by
  intro f bp n s nc ns hI hSB hnc hns
  obtain ⟨hW, ⟨I, A, hm, hR⟩, ⟨o, hl⟩, ⟨od, hd⟩, hn155, hbp⟩ := hI
  have hB := hSB.1
  have hc8 := hSB.2.1
  have hK9 : 30500 * t + 30500 < 16000000 := by omega
  obtain ⟨h0, ⟨J, B, hst, hS⟩, -, -, -, ⟨T1, hk1⟩, ⟨T4, hk4⟩, -, ⟨Lc, hcd, hcl, hcx⟩, hox, hbx⟩ := id hW
  have hcm : (qUndo s).1 ≤ 3 := Nat.le_trans (m := 1) (by unfold qUndo; (repeat' split) <;> exact Nat.le_of_ble_eq_true rfl) (by decide)
  refine aw_aload_n dL_law_2448 rfl rfl ?_
  refine aw_aload_n dL_law_2449 rfl rfl ?_
  refine aw_sW (as := [Value.ref 31, Value.ref 153]) (rest := []) mW_L_undo (w_undo (l := l) (G := G) hW hSB hK9 (by omega) (by omega) (by omega) hl) ml_L_293 dL_law_2450 rfl rfl (by decide) (Nat.le_of_ble_eq_true rfl) ⟨by omega, by omega⟩ (fun _ _ _ h => by cases h.1) (fun r1 f1 n1 hn1 h => ?_)
  obtain ⟨g1, -, bp1, o1, hb1, hG, hu1, hv1, hF⟩ := h
  cases g1
  have hm1 := hm.fr (f := f1) (fun a _ _ => hF a (by omega) (by omega) (by omega) (by omega))
  have hoth := hF 154 (by omega) (by omega) (by omega) (by omega)
  refine aw_istore (L' := [(6, .int (nI ((qUndo s).1))), (5, .int (nI (3 * t))), (4, .ref 154), (3, .ref 153), (2, .ref 144), (1, .ref 31), (0, .ref 0)]) dL_law_2453 (Nat.le_of_ble_eq_true rfl) rfl ?_
  refine aw_aload_n dL_law_2455 rfl rfl ?_
  have hq_m := m_undo (l := l) (G := G) (n := n1) (f := f1) (o := 144) (I := I) (A := A) hR hc8
  rw [hm1.self] at hq_m
  refine aw_cP (as := []) (rest := []) (MV.c mV_X11_undo) hq_m ml_L_295 (RC.w hm1.obj rfl) dL_law_2456 rfl rfl (by decide) (Nat.le_of_ble_eq_true rfl) ⟨by omega, by omega⟩ (fun _ _ _ h => by cases h.1) (fun r2 f2 n2 hn2 h => ?_)
  obtain ⟨g1, g2, I2, A2, hf2, hR2, h12⟩ := h
  cases g1
  have g2 := g2.symm
  subst g2
  have hm2 : mAt f2 144 I2 A2 := by rw [hf2]; exact mAt.new
  have hE2 : ∀ a, (a < 144 ∨ 153 ≤ a) → f2 a = f1 a := fun a h => by rw [hf2]; exact rU_out (by omega)
  have hG2 := hG.fr (f := f2) (fun a _ _ => hE2 a (by omega)) (hE2 bp1 (by omega)) (Nat.le_refl _)
  refine aw_istore (L' := [(7, .int (nI (qUndo s).2)), (6, .int (nI ((qUndo s).1))), (5, .int (nI (3 * t))), (4, .ref 154), (3, .ref 153), (2, .ref 144), (1, .ref 31), (0, .ref 0)]) dL_law_2459 (Nat.le_of_ble_eq_true rfl) rfl ?_
  refine aw_aload_n dL_law_2461 rfl rfl ?_
  have hq_t := m_thrown (l := l) (G := G) (n := n1) (f := f2) (o := 144) (A := A2) h12
  rw [hm2.self] at hq_t
  refine aw_cI (as := []) (rest := []) (MV.c mV_X11_thrown) hq_t ml_L_155 (RC.w hm2.obj rfl) dL_law_2462 rfl rfl (by decide) (Nat.le_of_ble_eq_true rfl) ⟨by omega, by omega⟩ ?_
  refine aw_iload dL_law_2465 rfl ?_
  refine aw_icmp_eq (tgt := 2472) dL_law_2467 (by decide) (fun c_1 => ?_) (fun c_1 => by exfalso; exact c_1 rfl)
  refine aw_iload dL_law_2472 rfl ?_
  refine aw_if_ne (tgt := 2489) dL_law_2474 (by decide) (fun c_2 => ?_) (fun c_2 => ?_)
  · refine aw_goto (tgt := 2549) dL_law_2489 (by decide) ?_
    refine aw_sub [(5, .int (nI (3 * t))), (4, .ref 154), (3, .ref 153), (2, .ref 144), (1, .ref 31), (0, .ref 0)] (by simp) ?_
    exact hgo f2 bp1 n1 (undS s) _ _ ⟨hG2, ⟨I2, A2, hm2, hR2⟩, ⟨o1, (hE2 153 (by omega)).trans hu1⟩, ⟨od, (hE2 154 (by omega)).trans (hoth.trans hd)⟩, by omega, by omega⟩ (hSB.und.mono (by omega) (by omega)) (by omega) (by omega)
  · have hc0 := nI_0c hcm c_2
    refine aw_aload_n dL_law_2477 rfl rfl ?_
    refine aw_iconst_n 0 dL_law_2478 (by decide) ?_
    refine aw_lald ((hE2 153 (by omega)).trans hu1) (vp_in_nI (by decide) (by decide)) dL_law_2479 ?_
    rw [nIc (by decide), hv1 hc0]
    refine aw_iload dL_law_2480 rfl ?_
    refine aw_i2l dL_law_2482 ?_
    refine aw_lcmp dL_law_2483 ?_
    refine aw_if_eq (tgt := 2489) dL_law_2484 (by decide) (fun c_3 => ?_) (fun c_3 => by exfalso; exact c_3 (lcmp_same _))
    refine aw_goto (tgt := 2549) dL_law_2489 (by decide) ?_
    refine aw_sub [(5, .int (nI (3 * t))), (4, .ref 154), (3, .ref 153), (2, .ref 144), (1, .ref 31), (0, .ref 0)] (by simp) ?_
    exact hgo f2 bp1 n1 (undS s) _ _ ⟨hG2, ⟨I2, A2, hm2, hR2⟩, ⟨o1, (hE2 153 (by omega)).trans hu1⟩, ⟨od, (hE2 154 (by omega)).trans (hoth.trans hd)⟩, by omega, by omega⟩ (hSB.und.mono (by omega) (by omega)) (by omega) (by omega)
set_option maxHeartbeats 4000000 in
theorem lc_44 {l : Launch} {G : GT} {n0 t : Nat} {hh : List ExceptionTableEntry} {nm : String} (hG9 : gN G ≤ 1536) (ht : 3 * t + 2 < gN G) (ht9 : t < 512) (hgo : LGo l G n0 t hh nm) : LCase l G n0 t hh nm 2492 := by
  intro f bp n s nc ns hI hSB hnc hns
  obtain ⟨hW, ⟨I, A, hm, hR⟩, ⟨o, hl⟩, ⟨od, hd⟩, hn155, hbp⟩ := hI
  have hB := hSB.1
  have hc8 := hSB.2.1
  have hK9 : 30500 * t + 30500 < 16000000 := by omega
  obtain ⟨h0, ⟨J, B, hst, hS⟩, -, -, -, ⟨T1, hk1⟩, ⟨T4, hk4⟩, -, ⟨Lc, hcd, hcl, hcx⟩, hox, hbx⟩ := id hW
  skip
  refine aw_aload_n dL_law_2492 rfl rfl ?_
  have hq_g := g_save (l := l) (G := G) (n := n) hW hSB
  refine aw_cP (as := []) (rest := []) (MV.c mV_X10_save) hq_g ml_L_296 (RC.w h0 rfl) dL_law_2493 rfl rfl (by decide) (Nat.le_of_ble_eq_true rfl) ⟨by omega, by omega⟩ (fun _ _ _ h => by obtain ⟨h9, -⟩ := h; exact absurd rfl (xA_inr h9).1) (fun r1 f1 n1 hn1 h => ?_)
  obtain ⟨g1, -, bp1, hb1, hG, hF⟩ := h
  obtain ⟨-, g1⟩ := xA_inl g1
  subst g1
  have hm1 := hm.fr (f := f1) (fun a _ _ => hF a (by omega) (by omega) (by omega))
  have ho3 := hF 153 (by omega) (by omega) (by omega)
  have ho4 := hF 154 (by omega) (by omega) (by omega)
  refine aw_aload_n dL_law_2496 rfl rfl ?_
  have hq_m := m_save (l := l) (G := G) (n := n1) (f := f1) (o := 144) (I := I) (A := A) hR
  rw [hm1.self] at hq_m
  refine aw_cP (as := []) (rest := [Value.int (nI (s.1 0))]) (MV.c mV_X11_save) hq_m ml_L_299 (RC.w hm1.obj rfl) dL_law_2497 rfl rfl (by decide) (Nat.le_of_ble_eq_true rfl) ⟨by omega, by omega⟩ (fun _ _ _ h => by cases h.1) (fun r2 f2 n2 hn2 h => ?_)
  obtain ⟨g1, g2, I2, A2, hf2, hR2, h12⟩ := h
  cases g1
  have g2 := g2.symm
  subst g2
  have hm2 : mAt f2 144 I2 A2 := by rw [hf2]; exact mAt.new
  have hE2 : ∀ a, (a < 144 ∨ 153 ≤ a) → f2 a = f1 a := fun a h => by rw [hf2]; exact rU_out (by omega)
  have hG2 := hG.fr (f := f2) (fun a _ _ => hE2 a (by omega)) (hE2 bp1 (by omega)) (Nat.le_refl _)
  refine aw_icmp_eq (tgt := 2549) dL_law_2500 (by decide) (fun c_1 => ?_) (fun c_1 => by exfalso; exact c_1 rfl)
  refine aw_sub [(5, .int (nI (3 * t))), (4, .ref 154), (3, .ref 153), (2, .ref 144), (1, .ref 31), (0, .ref 0)] (by simp) ?_
  exact hgo f2 bp1 n1 (savS s) _ _ ⟨hG2, ⟨I2, A2, hm2, hR2⟩, ⟨o, (hE2 153 (by omega)).trans (ho3.trans hl)⟩, ⟨od, (hE2 154 (by omega)).trans (ho4.trans hd)⟩, by omega, by omega⟩ (hSB.sav.mono (by omega) (by omega)) (by omega) (by omega)
set_option maxHeartbeats 4000000 in
theorem lc_45 {l : Launch} {G : GT} {n0 t : Nat} {hh : List ExceptionTableEntry} {nm : String} (hG9 : gN G ≤ 1536) (ht : 3 * t + 2 < gN G) (ht9 : t < 512) (hgo : LGo l G n0 t hh nm) : LCase l G n0 t hh nm 2505 := by
  intro f bp n s nc ns hI hSB hnc hns
  obtain ⟨hW, ⟨I, A, hm, hR⟩, ⟨o, hl⟩, ⟨od, hd⟩, hn155, hbp⟩ := hI
  have hB := hSB.1
  have hc8 := hSB.2.1
  have hK9 : 30500 * t + 30500 < 16000000 := by omega
  obtain ⟨h0, ⟨J, B, hst, hS⟩, -, -, -, ⟨T1, hk1⟩, ⟨T4, hk4⟩, -, ⟨Lc, hcd, hcl, hcx⟩, hox, hbx⟩ := id hW
  have hcm : (qRes s).1 ≤ 3 := Nat.le_trans (m := 1) (by unfold qRes; (repeat' split) <;> exact Nat.le_of_ble_eq_true rfl) (by decide)
  refine aw_aload_n dL_law_2505 rfl rfl ?_
  refine aw_aload_n dL_law_2506 rfl rfl ?_
  refine aw_sW (as := [Value.ref 31, Value.ref 153]) (rest := []) mW_L_restore (w_restore (l := l) (G := G) hW hSB hK9 (by omega) (by omega) (by omega) hl) ml_L_300 dL_law_2507 rfl rfl (by decide) (Nat.le_of_ble_eq_true rfl) ⟨by omega, by omega⟩ (fun _ _ _ h => by cases h.1) (fun r1 f1 n1 hn1 h => ?_)
  obtain ⟨g1, -, bp1, o1, hb1, hG, hu1, hv1, hF⟩ := h
  cases g1
  have hm1 := hm.fr (f := f1) (fun a _ _ => hF a (by omega) (by omega) (by omega) (by omega))
  have hoth := hF 154 (by omega) (by omega) (by omega) (by omega)
  refine aw_istore (L' := [(6, .int (nI ((qRes s).1))), (5, .int (nI (3 * t))), (4, .ref 154), (3, .ref 153), (2, .ref 144), (1, .ref 31), (0, .ref 0)]) dL_law_2510 (Nat.le_of_ble_eq_true rfl) rfl ?_
  refine aw_aload_n dL_law_2512 rfl rfl ?_
  have hq_m := m_restore (l := l) (G := G) (n := n1) (f := f1) (o := 144) (I := I) (A := A) hR
  rw [hm1.self] at hq_m
  refine aw_cP (as := []) (rest := []) (MV.c mV_X11_restore) hq_m ml_L_302 (RC.w hm1.obj rfl) dL_law_2513 rfl rfl (by decide) (Nat.le_of_ble_eq_true rfl) ⟨by omega, by omega⟩ (fun _ _ _ h => by cases h.1) (fun r2 f2 n2 hn2 h => ?_)
  obtain ⟨g1, g2, I2, A2, hf2, hR2, h12⟩ := h
  cases g1
  have g2 := g2.symm
  subst g2
  have hm2 : mAt f2 144 I2 A2 := by rw [hf2]; exact mAt.new
  have hE2 : ∀ a, (a < 144 ∨ 153 ≤ a) → f2 a = f1 a := fun a h => by rw [hf2]; exact rU_out (by omega)
  have hG2 := hG.fr (f := f2) (fun a _ _ => hE2 a (by omega)) (hE2 bp1 (by omega)) (Nat.le_refl _)
  refine aw_istore (L' := [(7, .int (nI (qRes s).2)), (6, .int (nI ((qRes s).1))), (5, .int (nI (3 * t))), (4, .ref 154), (3, .ref 153), (2, .ref 144), (1, .ref 31), (0, .ref 0)]) dL_law_2516 (Nat.le_of_ble_eq_true rfl) rfl ?_
  refine aw_aload_n dL_law_2518 rfl rfl ?_
  have hq_t := m_thrown (l := l) (G := G) (n := n1) (f := f2) (o := 144) (A := A2) h12
  rw [hm2.self] at hq_t
  refine aw_cI (as := []) (rest := []) (MV.c mV_X11_thrown) hq_t ml_L_155 (RC.w hm2.obj rfl) dL_law_2519 rfl rfl (by decide) (Nat.le_of_ble_eq_true rfl) ⟨by omega, by omega⟩ ?_
  refine aw_iload dL_law_2522 rfl ?_
  refine aw_icmp_eq (tgt := 2529) dL_law_2524 (by decide) (fun c_1 => ?_) (fun c_1 => by exfalso; exact c_1 rfl)
  refine aw_iload dL_law_2529 rfl ?_
  refine aw_if_ne (tgt := 2546) dL_law_2531 (by decide) (fun c_2 => ?_) (fun c_2 => ?_)
  · refine aw_goto (tgt := 2549) dL_law_2546 (by decide) ?_
    refine aw_sub [(5, .int (nI (3 * t))), (4, .ref 154), (3, .ref 153), (2, .ref 144), (1, .ref 31), (0, .ref 0)] (by simp) ?_
    exact hgo f2 bp1 n1 (resS s) _ _ ⟨hG2, ⟨I2, A2, hm2, hR2⟩, ⟨o1, (hE2 153 (by omega)).trans hu1⟩, ⟨od, (hE2 154 (by omega)).trans (hoth.trans hd)⟩, by omega, by omega⟩ (hSB.res.mono (by omega) (by omega)) (by omega) (by omega)
  · have hc0 := nI_0c hcm c_2
    refine aw_aload_n dL_law_2534 rfl rfl ?_
    refine aw_iconst_n 0 dL_law_2535 (by decide) ?_
    refine aw_lald ((hE2 153 (by omega)).trans hu1) (vp_in_nI (by decide) (by decide)) dL_law_2536 ?_
    rw [nIc (by decide), hv1 hc0]
    refine aw_iload dL_law_2537 rfl ?_
    refine aw_i2l dL_law_2539 ?_
    refine aw_lcmp dL_law_2540 ?_
    refine aw_if_eq (tgt := 2546) dL_law_2541 (by decide) (fun c_3 => ?_) (fun c_3 => by exfalso; exact c_3 (lcmp_same _))
    refine aw_goto (tgt := 2549) dL_law_2546 (by decide) ?_
    refine aw_sub [(5, .int (nI (3 * t))), (4, .ref 154), (3, .ref 153), (2, .ref 144), (1, .ref 31), (0, .ref 0)] (by simp) ?_
    exact hgo f2 bp1 n1 (resS s) _ _ ⟨hG2, ⟨I2, A2, hm2, hR2⟩, ⟨o1, (hE2 153 (by omega)).trans hu1⟩, ⟨od, (hE2 154 (by omega)).trans (hoth.trans hd)⟩, by omega, by omega⟩ (hSB.res.mono (by omega) (by omega)) (by omega) (by omega)
