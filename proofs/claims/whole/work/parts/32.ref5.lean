/-! the methods of the reference: a tick -/
theorem pX_ok {D : Nat → Nat → Int32} (h : cOK D) : cOK (pX D) := by
  obtain ⟨n, hn, hc⟩ := h
  rcases Nat.lt_or_ge n 24 with h | h
  · exact ⟨n + 1, by omega, by rw [pXn h hc, u2_s]⟩
  · have h9 : n = 24 := by omega
    subst h9
    exact ⟨24, hn, by rw [pX24 hc, hc]⟩
theorem upX_k {D : Nat → Nat → Int32} {s a k i : Nat} (h : k ≠ 20 ∧ k ≠ 21 ∧ k ≠ 23) : upX D s a k i = D k i := by
  unfold upX
  rw [pX_k ⟨h.1, h.2.1⟩]
  simp only [u2_k _ _ _ _ h.2.2]
  exact bgn_k h.2.2
theorem upX_ok {D : Nat → Nat → Int32} {s a : Nat} (h : cOK D) : cOK (upX D s a) := by
  unfold upX
  apply pX_ok
  obtain ⟨n, hn, hc⟩ := h
  refine ⟨n, hn, ?_⟩
  simp only [u2_k _ _ _ _ (show 20 ≠ 23 by decide)]
  rw [bgn_k (by decide)]
  exact hc
def suX (s : Nat) : Nat → Nat → Nat → (Nat → Nat → Int32) → (Nat → Nat → Int32)
  | 0, _, _, D => D
  | t + 1, a, c, D => if c < 2 then (if D 14 (6 * s + a) = 0 then suX s t (a + 1) c D else suX s t (a + 1) (c + 1) (upX D s a)) else D
theorem suX_k (s : Nat) {k i : Nat} (h : k ≠ 20 ∧ k ≠ 21 ∧ k ≠ 23) : ∀ (t a c : Nat) (D : Nat → Nat → Int32), suX s t a c D k i = D k i := by
  intro t
  induction t with
  | zero => intro a c D; rfl
  | succ t ih =>
    intro a c D
    unfold suX
    split
    · split
      · exact ih _ _ _
      · rw [ih]
        exact upX_k h
    · rfl
theorem suX_ok (s : Nat) : ∀ (t a c : Nat) (D : Nat → Nat → Int32), cOK D → cOK (suX s t a c D) := by
  intro t
  induction t with
  | zero => intro a c D h; exact h
  | succ t ih =>
    intro a c D h
    unfold suX
    split
    · split
      · exact ih _ _ _ h
      · exact ih _ _ _ (upX_ok h)
    · exact h
def dmS (s : Nat) (D : Nat → Nat → Int32) : Nat → Nat → Int32 := pX (u2 (bgn D 6 (nI s) (nI (1 - s)) (63 - D 6 s) 0) 23 11 (D 4 s))
theorem dmS_ok {s : Nat} {D : Nat → Nat → Int32} (h : cOK D) : cOK (dmS s D) := by
  unfold dmS
  apply pX_ok
  obtain ⟨n, hn, hc⟩ := h
  exact ⟨n, hn, by rw [u2_k _ _ _ _ (by decide), bgn_k (by decide)]; exact hc⟩
def teX (s : Nat) (D : Nat → Nat → Int32) : Nat → Nat → Int32 := if D 2 s = 1 then suX s 6 0 0 D else if D 2 s = 4 ∧ ¬ D 6 s = 63 then dmS s D else D
def btX (s : Nat) (D : Nat → Nat → Int32) : Nat → Nat → Int32 := if ctc D = true then teX s (tkB s D) else tkB s D
section XE
variable {dA ad ix : Nat → Nat} {B E D : Nat → Nat → Int32} {π : Nat → Nat} {τ d : Nat} {Q : Option Value → pz_F → Prop}

set_option maxHeartbeats 400000 in
set_option maxRecDepth 20000 in
theorem i116a (hA : ∀ i, ix (ad i) = i) {s : Nat} (hs : s < 2) {i : Nat} (hi : i < 6) {ct : Int32} {v : Value} (hsv : srv D s = true) : pz_R dA (d + 2) 116 106 [.ref (ad 100), .int (nI s), .int ct, .int (nI (6 * s + i)), v] [] (pz_wf ad ix (cw dA ad B E π τ D)) Q = pz_R dA (d + 2) 116 106 [.ref (ad 100), .int (nI s), .int ct, .int (nI (6 * s + (i + 1))), v] [] (pz_wf ad ix (cw dA ad B E π τ (b_exp s (D 0 0) D i))) Q := by
  have hb : nI (6 * s) + 6 = nI (6 * s + 6) := nI_add (6 * s) 6
  have hb2 : nI (6 * s + i) + 1 = nI (6 * s + (i + 1)) := nI_1 (6 * s + i)
  rw [q116_106]
  simp only [pz_o_s, wf_gf hA, wf_gu hA, wf_pf hA, wf_il hA, wf_is hA, wf_rl hA, wf_rs hA, Option.map_some, Option.toList_some, Option.toList_none, List.cons_append, List.nil_append, List.length_cons, List.length_nil, Nat.reduceAdd, Nat.reduceLeDiff, Nat.zero_le, u2_e, Nat.reduceEqDiff, false_and, and_false, true_and, and_true, if_false, if_true, i10, i01, q116_107, q116_109, q116_110, q116_111, q116_113, q116_114, q116_117, q116_118, q116_119, q116_122, q116_125, q116_126, q116_129, q116_130, q116_131, q116_132, q116_135, q116_136, q116_139, q116_140, q116_141, q116_142, q116_145, q116_148, q116_149, q116_150, q116_153, q116_156, gu_X, gf_X0, gf_X1, gf_X2, gf_X3, gf_X4, gf_X5, gf_X6, gf_X7, gf_X8, gf_X9, gf_X10, gf_X11, gf_X12, gf_X13, gf_X14, gf_X15, gf_X16, gf_X17, gf_X18, gf_X19, gf_X20, gf_X21, gf_X22, gf_X23, pf_X0, pf_X1, pf_X20, sx_mul, hb, hb2, nle_nI (show 6 * s + i < 6 * s + 6 by omega) (by omega), m89 hA hs, hsv, il_7 (show 6 * s + i < 12 by omega), il_9 (show 6 * s + i < 12 by omega), m104 hA (show 6 * s + i < 12 by omega)]
  by_cases a1 : D 7 (6 * s + i) = 1 <;> by_cases a2 : D 0 0 ≤ D 9 (6 * s + i) <;> simp [b_exp, a1, a2]
set_option maxHeartbeats 400000 in
set_option maxRecDepth 20000 in
theorem x116a (hA : ∀ i, ix (ad i) = i) {s : Nat} (hs : s < 2) {ct : Int32} {v : Value} : pz_R dA d 116 106 [.ref (ad 100), .int (nI s), .int ct, .int (nI (6 * s + 6)), v] [] (pz_wf ad ix (cw dA ad B E π τ D)) Q = pz_R dA d 116 159 [.ref (ad 100), .int (nI s), .int ct, .int (nI (6 * s + 6)), v] [] (pz_wf ad ix (cw dA ad B E π τ D)) Q := by
  have hb : nI (6 * s) + 6 = nI (6 * s + 6) := nI_add (6 * s) 6
  rw [q116_106]
  simp only [pz_o_s, wf_gf hA, wf_gu hA, wf_pf hA, wf_il hA, wf_is hA, wf_rl hA, wf_rs hA, Option.map_some, Option.toList_some, Option.toList_none, List.cons_append, List.nil_append, List.length_cons, List.length_nil, Nat.reduceAdd, Nat.reduceLeDiff, Nat.zero_le, u2_e, Nat.reduceEqDiff, false_and, and_false, true_and, and_true, if_false, if_true, i10, i01, q116_107, q116_109, q116_110, q116_111, q116_113, q116_114, q116_117, q116_118, q116_119, q116_122, q116_125, q116_126, q116_129, q116_130, q116_131, q116_132, q116_135, q116_136, q116_139, q116_140, q116_141, q116_142, q116_145, q116_148, q116_149, q116_150, q116_153, q116_156, gu_X, gf_X0, gf_X1, gf_X2, gf_X3, gf_X4, gf_X5, gf_X6, gf_X7, gf_X8, gf_X9, gf_X10, gf_X11, gf_X12, gf_X13, gf_X14, gf_X15, gf_X16, gf_X17, gf_X18, gf_X19, gf_X20, gf_X21, gf_X22, gf_X23, pf_X0, pf_X1, pf_X20, sx_mul, hb, le_nI (Nat.le_refl (6 * s + 6)) (show 6 * s + 6 < 2 ^ 31 by omega)]
set_option maxHeartbeats 400000 in
set_option maxRecDepth 20000 in
theorem y116a (hA : ∀ i, ix (ad i) = i) {s : Nat} (hs : s < 2) {ct : Int32} {v : Value} (hsv : srv D s = false) : pz_R dA (d + 2) 116 106 [.ref (ad 100), .int (nI s), .int ct, .int (nI (6 * s)), v] [] (pz_wf ad ix (cw dA ad B E π τ D)) Q = pz_R dA (d + 2) 116 159 [.ref (ad 100), .int (nI s), .int ct, .int (nI (6 * s)), v] [] (pz_wf ad ix (cw dA ad B E π τ D)) Q := by
  have hb : nI (6 * s) + 6 = nI (6 * s + 6) := nI_add (6 * s) 6
  rw [q116_106]
  simp only [pz_o_s, wf_gf hA, wf_gu hA, wf_pf hA, wf_il hA, wf_is hA, wf_rl hA, wf_rs hA, Option.map_some, Option.toList_some, Option.toList_none, List.cons_append, List.nil_append, List.length_cons, List.length_nil, Nat.reduceAdd, Nat.reduceLeDiff, Nat.zero_le, u2_e, Nat.reduceEqDiff, false_and, and_false, true_and, and_true, if_false, if_true, i10, i01, q116_107, q116_109, q116_110, q116_111, q116_113, q116_114, q116_117, q116_118, q116_119, q116_122, q116_125, q116_126, q116_129, q116_130, q116_131, q116_132, q116_135, q116_136, q116_139, q116_140, q116_141, q116_142, q116_145, q116_148, q116_149, q116_150, q116_153, q116_156, gu_X, gf_X0, gf_X1, gf_X2, gf_X3, gf_X4, gf_X5, gf_X6, gf_X7, gf_X8, gf_X9, gf_X10, gf_X11, gf_X12, gf_X13, gf_X14, gf_X15, gf_X16, gf_X17, gf_X18, gf_X19, gf_X20, gf_X21, gf_X22, gf_X23, pf_X0, pf_X1, pf_X20, sx_mul, hb, nle_nI (show 6 * s < 6 * s + 6 by omega) (by omega), m89 hA hs, hsv, Bool.false_eq_true]
theorem l116a (hA : ∀ i, ix (ad i) = i) {s : Nat} (hs : s < 2) {ct now : Int32} {v : Value} : ∀ (t i : Nat) (D : Nat → Nat → Int32), i + t = 6 → D 0 0 = now → srv D s = true → pz_R dA (d + 2) 116 106 [.ref (ad 100), .int (nI s), .int ct, .int (nI (6 * s + i)), v] [] (pz_wf ad ix (cw dA ad B E π τ D)) Q = pz_R dA (d + 2) 116 159 [.ref (ad 100), .int (nI s), .int ct, .int (nI (6 * s + 6)), v] [] (pz_wf ad ix (cw dA ad B E π τ (lp (b_exp s now) t i D))) Q := by
  intro t
  induction t with
  | zero =>
    intro i D h hb hsv
    have h : i = 6 := h
    subst h
    exact x116a hA hs
  | succ t ih =>
    intro i D h hb hsv
    rw [i116a hA hs (by omega) hsv, hb, ih (i + 1) _ (by omega) (by rw [b_exp_k (by decide)]; exact hb) (by rw [srv_c (b_exp_k (by decide))]; exact hsv)]
    rfl
set_option maxHeartbeats 400000 in
set_option maxRecDepth 20000 in
theorem i116b (hA : ∀ i, ix (ad i) = i) {s : Nat} (hs : s < 2) (hk : cOK D) {a c : Nat} (ha : a < 6) (hcc : c < 2) (h1 : D 2 s = 1) : pz_R dA (d + 2) 116 169 [.ref (ad 100), .int (nI s), .int 1, .int (nI c), .int (nI a)] [] (pz_wf ad ix (cw dA ad B E π τ D)) Q = (if D 14 (6 * s + a) = 0 then pz_R dA (d + 2) 116 169 [.ref (ad 100), .int (nI s), .int 1, .int (nI c), .int (nI (a + 1))] [] (pz_wf ad ix (cw dA ad B E π τ D)) Q else pz_R dA (d + 2) 116 169 [.ref (ad 100), .int (nI s), .int 1, .int (nI (c + 1)), .int (nI (a + 1))] [] (pz_wf ad ix (cw dA ad B E π τ (upX D s a))) Q) := by
  obtain ⟨n, hn, hc⟩ := hk
  have h2 : ((2 : Int32) ≤ nI c) = False := nle_nI (a := 2) hcc (by decide)
  rw [q116_169]
  simp only [pz_o_s, wf_gf hA, wf_gu hA, wf_pf hA, wf_il hA, wf_is hA, wf_rl hA, wf_rs hA, Option.map_some, Option.toList_some, Option.toList_none, List.cons_append, List.nil_append, List.length_cons, List.length_nil, Nat.reduceAdd, Nat.reduceLeDiff, Nat.zero_le, u2_e, Nat.reduceEqDiff, false_and, and_false, true_and, and_true, if_false, if_true, i10, i01, q116_171, q116_173, q116_176, q116_177, q116_180, q116_181, q116_182, q116_183, q116_186, q116_187, q116_188, q116_191, q116_192, q116_195, q116_197, q116_198, q116_199, q116_201, q116_202, q116_203, q116_206, q116_207, q116_208, q116_210, q116_213, q116_216, q116_219, gu_X, gf_X0, gf_X1, gf_X2, gf_X3, gf_X4, gf_X5, gf_X6, gf_X7, gf_X8, gf_X9, gf_X10, gf_X11, gf_X12, gf_X13, gf_X14, gf_X15, gf_X16, gf_X17, gf_X18, gf_X19, gf_X20, gf_X21, gf_X22, gf_X23, pf_X0, pf_X1, pf_X20, il_2 hs, il_3 hs, il_4 hs, il_5 hs, il_6 hs, is_2 hs, is_3 hs, is_4 hs, is_5 hs, is_6 hs, lt6 ha, h1, h2, sx_mul, nI_add, il_14 (show 6 * s + a < 12 by omega), nI_1, m105 hA hn hs ha hc]
set_option maxHeartbeats 400000 in
set_option maxRecDepth 20000 in
theorem x116b (hA : ∀ i, ix (ad i) = i) {s : Nat} (hs : s < 2) {c : Nat} : pz_R dA d 116 169 [.ref (ad 100), .int (nI s), .int 1, .int (nI c), .int (nI 6)] [] (pz_wf ad ix (cw dA ad B E π τ D)) Q = pz_R dA d 116 222 [.ref (ad 100), .int (nI s), .int 1, .int (nI c), .int (nI 6)] [] (pz_wf ad ix (cw dA ad B E π τ D)) Q := by
  rw [q116_169]
  simp only [pz_o_s, wf_gf hA, wf_gu hA, wf_pf hA, wf_il hA, wf_is hA, wf_rl hA, wf_rs hA, Option.map_some, Option.toList_some, Option.toList_none, List.cons_append, List.nil_append, List.length_cons, List.length_nil, Nat.reduceAdd, Nat.reduceLeDiff, Nat.zero_le, u2_e, Nat.reduceEqDiff, false_and, and_false, true_and, and_true, if_false, if_true, i10, i01, q116_171, q116_173, q116_176, q116_177, q116_180, q116_181, q116_182, q116_183, q116_186, q116_187, q116_188, q116_191, q116_192, q116_195, q116_197, q116_198, q116_199, q116_201, q116_202, q116_203, q116_206, q116_207, q116_208, q116_210, q116_213, q116_216, q116_219, le6]
set_option maxHeartbeats 400000 in
set_option maxRecDepth 20000 in
theorem y116b (hA : ∀ i, ix (ad i) = i) {s : Nat} (hs : s < 2) {a c : Nat} (ha : a < 6) (hcc : 2 ≤ c) (hc9 : c < 9) (h1 : D 2 s = 1) : pz_R dA d 116 169 [.ref (ad 100), .int (nI s), .int 1, .int (nI c), .int (nI a)] [] (pz_wf ad ix (cw dA ad B E π τ D)) Q = pz_R dA d 116 222 [.ref (ad 100), .int (nI s), .int 1, .int (nI c), .int (nI a)] [] (pz_wf ad ix (cw dA ad B E π τ D)) Q := by
  have h2 : ((2 : Int32) ≤ nI c) = True := le_nI (a := 2) hcc (by omega)
  rw [q116_169]
  simp only [pz_o_s, wf_gf hA, wf_gu hA, wf_pf hA, wf_il hA, wf_is hA, wf_rl hA, wf_rs hA, Option.map_some, Option.toList_some, Option.toList_none, List.cons_append, List.nil_append, List.length_cons, List.length_nil, Nat.reduceAdd, Nat.reduceLeDiff, Nat.zero_le, u2_e, Nat.reduceEqDiff, false_and, and_false, true_and, and_true, if_false, if_true, i10, i01, q116_171, q116_173, q116_176, q116_177, q116_180, q116_181, q116_182, q116_183, q116_186, q116_187, q116_188, q116_191, q116_192, q116_195, q116_197, q116_198, q116_199, q116_201, q116_202, q116_203, q116_206, q116_207, q116_208, q116_210, q116_213, q116_216, q116_219, gu_X, gf_X0, gf_X1, gf_X2, gf_X3, gf_X4, gf_X5, gf_X6, gf_X7, gf_X8, gf_X9, gf_X10, gf_X11, gf_X12, gf_X13, gf_X14, gf_X15, gf_X16, gf_X17, gf_X18, gf_X19, gf_X20, gf_X21, gf_X22, gf_X23, pf_X0, pf_X1, pf_X20, il_2 hs, il_3 hs, il_4 hs, il_5 hs, il_6 hs, is_2 hs, is_3 hs, is_4 hs, is_5 hs, is_6 hs, lt6 ha, h1, h2]
set_option maxHeartbeats 400000 in
set_option maxRecDepth 20000 in
theorem z116b (hA : ∀ i, ix (ad i) = i) {s : Nat} (hs : s < 2) {a c : Nat} (ha : a < 6) (h1 : ¬ D 2 s = 1) : pz_R dA d 116 169 [.ref (ad 100), .int (nI s), .int 1, .int (nI c), .int (nI a)] [] (pz_wf ad ix (cw dA ad B E π τ D)) Q = pz_R dA d 116 222 [.ref (ad 100), .int (nI s), .int 1, .int (nI c), .int (nI a)] [] (pz_wf ad ix (cw dA ad B E π τ D)) Q := by
  rw [q116_169]
  simp only [pz_o_s, wf_gf hA, wf_gu hA, wf_pf hA, wf_il hA, wf_is hA, wf_rl hA, wf_rs hA, Option.map_some, Option.toList_some, Option.toList_none, List.cons_append, List.nil_append, List.length_cons, List.length_nil, Nat.reduceAdd, Nat.reduceLeDiff, Nat.zero_le, u2_e, Nat.reduceEqDiff, false_and, and_false, true_and, and_true, if_false, if_true, i10, i01, q116_171, q116_173, q116_176, q116_177, q116_180, q116_181, q116_182, q116_183, q116_186, q116_187, q116_188, q116_191, q116_192, q116_195, q116_197, q116_198, q116_199, q116_201, q116_202, q116_203, q116_206, q116_207, q116_208, q116_210, q116_213, q116_216, q116_219, gu_X, gf_X0, gf_X1, gf_X2, gf_X3, gf_X4, gf_X5, gf_X6, gf_X7, gf_X8, gf_X9, gf_X10, gf_X11, gf_X12, gf_X13, gf_X14, gf_X15, gf_X16, gf_X17, gf_X18, gf_X19, gf_X20, gf_X21, gf_X22, gf_X23, pf_X0, pf_X1, pf_X20, il_2 hs, il_3 hs, il_4 hs, il_5 hs, il_6 hs, is_2 hs, is_3 hs, is_4 hs, is_5 hs, is_6 hs, lt6 ha, h1]
set_option maxHeartbeats 400000 in
set_option maxRecDepth 20000 in
theorem w116 (hA : ∀ i, ix (ad i) = i) {s : Nat} (hs : s < 2) {x y z : Value} (hk : cOK D) : pz_R dA (d + 1) 116 222 [.ref (ad 100), .int (nI s), x, y, z] [] (pz_wf ad ix (cw dA ad B E π τ D)) Q = (if D 2 s = 4 then (if D 6 s = 63 then Q none (pz_wf ad ix (cw dA ad B E π τ D)) else Q none (pz_wf ad ix (cw dA ad B E π τ (dmS s D)))) else Q none (pz_wf ad ix (cw dA ad B E π τ D))) := by
  obtain ⟨n, hn, hc⟩ := hk
  have h2 : u2 (bgn D 6 (nI s) (nI (1 - s)) (63 - D 6 s) 0) 23 11 (D 4 s) 20 0 = nI n := by rw [u2_k _ _ _ _ (by decide), bgn_k (by decide)]; exact hc
  simp only [pz_o_s, wf_gf hA, wf_gu hA, wf_pf hA, wf_il hA, wf_is hA, wf_rl hA, wf_rs hA, Option.map_some, Option.toList_some, Option.toList_none, List.cons_append, List.nil_append, List.length_cons, List.length_nil, Nat.reduceAdd, Nat.reduceLeDiff, Nat.zero_le, u2_e, Nat.reduceEqDiff, false_and, and_false, true_and, and_true, if_false, if_true, i10, i01, q116_222, q116_223, q116_226, q116_227, q116_228, q116_229, q116_232, q116_233, q116_236, q116_237, q116_238, q116_240, q116_243, q116_244, q116_246, q116_247, q116_248, q116_249, q116_250, q116_252, q116_253, q116_256, q116_257, q116_258, q116_259, q116_260, q116_263, q116_264, q116_267, q116_269, q116_270, q116_273, q116_274, q116_275, q116_276, q116_277, q116_280, gu_X, gf_X0, gf_X1, gf_X2, gf_X3, gf_X4, gf_X5, gf_X6, gf_X7, gf_X8, gf_X9, gf_X10, gf_X11, gf_X12, gf_X13, gf_X14, gf_X15, gf_X16, gf_X17, gf_X18, gf_X19, gf_X20, gf_X21, gf_X22, gf_X23, pf_X0, pf_X1, pf_X20, il_2 hs, il_3 hs, il_4 hs, il_5 hs, il_6 hs, is_2 hs, is_3 hs, is_4 hs, is_5 hs, is_6 hs, one_sub hs, m94 hA, is_23_11, bgn_k (show 4 ≠ 23 by decide), m95 hA hn h2]
  rfl
theorem l116b (hA : ∀ i, ix (ad i) = i) {s : Nat} (hs : s < 2) : ∀ (t a c : Nat) (D : Nat → Nat → Int32), a + t = 6 → c ≤ a → cOK D → D 2 s = 1 → pz_R dA (d + 2) 116 169 [.ref (ad 100), .int (nI s), .int 1, .int (nI c), .int (nI a)] [] (pz_wf ad ix (cw dA ad B E π τ D)) Q = Q none (pz_wf ad ix (cw dA ad B E π τ (suX s t a c D))) := by
  intro t
  induction t with
  | zero =>
    intro a c D h hca hk h1
    have h : a = 6 := h
    subst h
    have h4 : ¬ D 2 s = 4 := by rw [h1]; decide
    rw [x116b hA hs, w116 hA hs hk, if_neg h4]
    rfl
  | succ t ih =>
    intro a c D h hca hk h1
    by_cases hcc : c < 2
    · rw [i116b hA hs hk (by omega) hcc h1]
      by_cases h9 : D 14 (6 * s + a) = 0
      · rw [if_pos h9, ih (a + 1) c D (by omega) (by omega) hk h1]
        simp only [suX, hcc, h9, if_true]
      · rw [if_neg h9, ih (a + 1) (c + 1) _ (by omega) (by omega) (upX_ok hk) (by rw [upX_k (by decide)]; exact h1)]
        simp only [suX, hcc, h9, if_true, if_false]
    · have h4 : ¬ D 2 s = 4 := by rw [h1]; decide
      rw [y116b hA hs (by omega) (by omega) (by omega) h1, w116 hA hs hk, if_neg h4]
      simp only [suX, hcc, if_false]
theorem t116 (hA : ∀ i, ix (ad i) = i) {s : Nat} (hs : s < 2) (hk : cOK D) : pz_R dA (d + 2) 116 169 [.ref (ad 100), .int (nI s), .int 1, .int (nI 0), .int (nI 0)] [] (pz_wf ad ix (cw dA ad B E π τ D)) Q = Q none (pz_wf ad ix (cw dA ad B E π τ (teX s D))) := by
  by_cases h1 : D 2 s = 1
  · rw [l116b hA hs 6 0 0 D (by omega) (by omega) hk h1]
    simp only [teX, h1, if_true]
  · rw [z116b hA hs (by omega) h1, w116 hA hs hk]
    by_cases h2 : D 2 s = 4
    · by_cases h3 : D 6 s = 63
      · simp only [teX, h1, h2, h3, if_true, if_false, not_true, and_false]
        simp
      · simp only [teX, h1, h2, h3, if_true, if_false, not_false_iff, and_self]
        simp
    · simp only [teX, h1, h2, if_false, false_and]
set_option maxHeartbeats 400000 in
set_option maxRecDepth 20000 in
theorem u116 (hA : ∀ i, ix (ad i) = i) {s : Nat} (hs : s < 2) {y z : Value} (hk : cOK D) : pz_R dA (d + 2) 116 159 [.ref (ad 100), .int (nI s), .int 1, y, z] [] (pz_wf ad ix (cw dA ad B E π τ D)) Q = Q none (pz_wf ad ix (cw dA ad B E π τ (teX s D))) := by
  simp only [pz_o_s, wf_gf hA, wf_gu hA, wf_pf hA, wf_il hA, wf_is hA, wf_rl hA, wf_rs hA, Option.map_some, Option.toList_some, Option.toList_none, List.cons_append, List.nil_append, List.length_cons, List.length_nil, Nat.reduceAdd, Nat.reduceLeDiff, Nat.zero_le, u2_e, Nat.reduceEqDiff, false_and, and_false, true_and, and_true, if_false, if_true, i10, i01, q116_159, q116_160, q116_163, q116_164, q116_165, q116_166, q116_167]
  have h := t116 (dA := dA) (ad := ad) (ix := ix) (B := B) (E := E) (π := π) (τ := τ) (Q := Q) (d := d) hA hs hk
  rw [nI_0] at h
  exact h
set_option maxHeartbeats 400000 in
set_option maxRecDepth 20000 in
theorem v116 (hA : ∀ i, ix (ad i) = i) {s : Nat} (hs : s < 2) {y z : Value} : pz_R dA d 116 159 [.ref (ad 100), .int (nI s), .int 0, y, z] [] (pz_wf ad ix (cw dA ad B E π τ D)) Q = Q none (pz_wf ad ix (cw dA ad B E π τ D)) := by
  simp only [pz_o_s, wf_gf hA, wf_gu hA, wf_pf hA, wf_il hA, wf_is hA, wf_rl hA, wf_rs hA, Option.map_some, Option.toList_some, Option.toList_none, List.cons_append, List.nil_append, List.length_cons, List.length_nil, Nat.reduceAdd, Nat.reduceLeDiff, Nat.zero_le, u2_e, Nat.reduceEqDiff, false_and, and_false, true_and, and_true, if_false, if_true, i10, i01, q116_159, q116_160, q116_163, q116_164, q116_165, q116_166, q116_167]
set_option maxHeartbeats 400000 in
set_option maxRecDepth 20000 in
theorem p116_0 (hA : ∀ i, ix (ad i) = i) {s : Nat} (hs : s < 2) : pz_R dA (d + 2) 116 5 [.ref (ad 100), .int (nI s), .int 0, .retAddr 0, .retAddr 0] [] (pz_wf ad ix (cw dA ad B E π τ D)) Q = pz_R dA (d + 2) 116 106 [.ref (ad 100), .int (nI s), .int 0, .int (nI (6 * s)), .retAddr 0] [] (pz_wf ad ix (cw dA ad B E π τ (b_fol D s 0 (D 0 0)))) Q := by
  simp only [pz_o_s, wf_gf hA, wf_gu hA, wf_pf hA, wf_il hA, wf_is hA, wf_rl hA, wf_rs hA, Option.map_some, Option.toList_some, Option.toList_none, List.cons_append, List.nil_append, List.length_cons, List.length_nil, Nat.reduceAdd, Nat.reduceLeDiff, Nat.zero_le, u2_e, Nat.reduceEqDiff, false_and, and_false, true_and, and_true, if_false, if_true, i10, i01, q116_5, q116_6, q116_9, q116_10, q116_11, q116_12, q116_15, q116_16, q116_19, q116_20, q116_23, q116_24, q116_25, q116_26, q116_29, q116_30, q116_33, q116_34, q116_35, q116_36, q116_39, q116_40, q116_43, q116_44, q116_47, q116_48, q116_49, q116_50, q116_53, q116_54, q116_57, q116_58, q116_59, q116_60, q116_63, q116_64, q116_67, q116_68, q116_71, q116_72, q116_73, q116_75, q116_78, q116_79, q116_82, q116_83, q116_86, q116_87, q116_88, q116_90, q116_91, q116_94, q116_95, q116_98, q116_99, q116_100, q116_101, q116_103, q116_104, q116_105, gu_X, gf_X0, gf_X1, gf_X2, gf_X3, gf_X4, gf_X5, gf_X6, gf_X7, gf_X8, gf_X9, gf_X10, gf_X11, gf_X12, gf_X13, gf_X14, gf_X15, gf_X16, gf_X17, gf_X18, gf_X19, gf_X20, gf_X21, gf_X22, gf_X23, pf_X0, pf_X1, pf_X20, il_2 hs, il_3 hs, il_4 hs, il_5 hs, il_6 hs, is_2 hs, is_3 hs, is_4 hs, is_5 hs, is_6 hs, sx_mul]
  by_cases h1 : D 2 s = 1 <;> by_cases h2 : D 2 s = 2 <;> by_cases h3 : D 2 s = 4 <;> by_cases h5 : D 6 s = 63 <;> by_cases h6 : D 0 0 ≤ D 3 s + 6 <;> simp [h1, h2, h3, h5, h6, b_fol]
set_option maxHeartbeats 400000 in
set_option maxRecDepth 20000 in
theorem p116_1 (hA : ∀ i, ix (ad i) = i) {s : Nat} (hs : s < 2) : pz_R dA (d + 2) 116 5 [.ref (ad 100), .int (nI s), .int 1, .retAddr 0, .retAddr 0] [] (pz_wf ad ix (cw dA ad B E π τ D)) Q = pz_R dA (d + 2) 116 106 [.ref (ad 100), .int (nI s), .int 1, .int (nI (6 * s)), .retAddr 0] [] (pz_wf ad ix (cw dA ad B E π τ (b_fol D s 1 (D 0 0)))) Q := by
  simp only [pz_o_s, wf_gf hA, wf_gu hA, wf_pf hA, wf_il hA, wf_is hA, wf_rl hA, wf_rs hA, Option.map_some, Option.toList_some, Option.toList_none, List.cons_append, List.nil_append, List.length_cons, List.length_nil, Nat.reduceAdd, Nat.reduceLeDiff, Nat.zero_le, u2_e, Nat.reduceEqDiff, false_and, and_false, true_and, and_true, if_false, if_true, i10, i01, q116_5, q116_6, q116_9, q116_10, q116_11, q116_12, q116_15, q116_16, q116_19, q116_20, q116_23, q116_24, q116_25, q116_26, q116_29, q116_30, q116_33, q116_34, q116_35, q116_36, q116_39, q116_40, q116_43, q116_44, q116_47, q116_48, q116_49, q116_50, q116_53, q116_54, q116_57, q116_58, q116_59, q116_60, q116_63, q116_64, q116_67, q116_68, q116_71, q116_72, q116_73, q116_75, q116_78, q116_79, q116_82, q116_83, q116_86, q116_87, q116_88, q116_90, q116_91, q116_94, q116_95, q116_98, q116_99, q116_100, q116_101, q116_103, q116_104, q116_105, gu_X, gf_X0, gf_X1, gf_X2, gf_X3, gf_X4, gf_X5, gf_X6, gf_X7, gf_X8, gf_X9, gf_X10, gf_X11, gf_X12, gf_X13, gf_X14, gf_X15, gf_X16, gf_X17, gf_X18, gf_X19, gf_X20, gf_X21, gf_X22, gf_X23, pf_X0, pf_X1, pf_X20, il_2 hs, il_3 hs, il_4 hs, il_5 hs, il_6 hs, is_2 hs, is_3 hs, is_4 hs, is_5 hs, is_6 hs, sx_mul]
  by_cases h1 : D 2 s = 1 <;> by_cases h2 : D 2 s = 2 <;> by_cases h3 : D 2 s = 4 <;> by_cases h5 : D 6 s = 63 <;> by_cases h6 : D 0 0 ≤ D 3 s + 6 <;> simp [h1, h2, h3, h5, h6, b_fol]
theorem s116 (hA : ∀ i, ix (ad i) = i) {s : Nat} (hs : s < 2) {ct : Int32} : pz_R dA (d + 2) 116 106 [.ref (ad 100), .int (nI s), .int ct, .int (nI (6 * s)), .retAddr 0] [] (pz_wf ad ix (cw dA ad B E π τ D)) Q = (if srv D s = true then pz_R dA (d + 2) 116 159 [.ref (ad 100), .int (nI s), .int ct, .int (nI (6 * s + 6)), .retAddr 0] [] (pz_wf ad ix (cw dA ad B E π τ (lp (b_exp s (D 0 0)) 6 0 D))) Q else pz_R dA (d + 2) 116 159 [.ref (ad 100), .int (nI s), .int ct, .int (nI (6 * s)), .retAddr 0] [] (pz_wf ad ix (cw dA ad B E π τ D)) Q) := by
  by_cases h : srv D s = true
  · rw [if_pos h]
    exact l116a hA hs 6 0 D (by omega) rfl h
  · rw [if_neg h]
    exact y116a hA hs (by simpa using h)
set_option maxHeartbeats 400000 in
set_option maxRecDepth 20000 in
theorem m116 (hA : ∀ i, ix (ad i) = i) {s : Nat} (hs : s < 2) (hk : cOK D) : pz_C dA (d + 2) 116 [.ref (ad 100), .int (nI s)] (pz_wf ad ix (cw dA ad B E π τ D)) Q = Q none (pz_wf ad ix (cw dA ad B E π τ (btX s D))) := by
  have hf : ∀ ct, cOK (b_fol D s ct (D 0 0)) := by
    obtain ⟨n, hn, hc⟩ := hk
    exact fun ct => ⟨n, hn, by rw [b_fol_k (by decide)]; exact hc⟩
  have hl : ∀ ct, cOK (lp (b_exp s (D 0 0)) 6 0 (b_fol D s ct (D 0 0))) := by
    obtain ⟨n, hn, hc⟩ := hk
    exact fun ct => ⟨n, hn, by rw [lp_exp_k (by omega), b_fol_k (by decide)]; exact hc⟩
  rw [show pz_C dA (d + 2) 116 [.ref (ad 100), .int (nI s)] (pz_wf ad ix (cw dA ad B E π τ D)) Q = _ from e116]
  simp only [pz_o_s, wf_gf hA, wf_gu hA, wf_pf hA, wf_il hA, wf_is hA, wf_rl hA, wf_rs hA, Option.map_some, Option.toList_some, Option.toList_none, List.cons_append, List.nil_append, List.length_cons, List.length_nil, Nat.reduceAdd, Nat.reduceLeDiff, Nat.zero_le, u2_e, Nat.reduceEqDiff, false_and, and_false, true_and, and_true, if_false, if_true, i10, i01, q116_0, q116_1, q116_4, gu_X, gf_X0, gf_X1, gf_X2, gf_X3, gf_X4, gf_X5, gf_X6, gf_X7, gf_X8, gf_X9, gf_X10, gf_X11, gf_X12, gf_X13, gf_X14, gf_X15, gf_X16, gf_X17, gf_X18, gf_X19, gf_X20, gf_X21, gf_X22, gf_X23, pf_X0, pf_X1, pf_X20, m90 hA, p116_0 hA hs, p116_1 hA hs, s116 hA hs, b_fol_k (show 0 ≠ 2 by decide), u116 hA hs (hf 1), u116 hA hs (hl 1), v116 hA hs]
  by_cases c1 : ctc D = true
  · by_cases c2 : srv (b_fol D s 1 (D 0 0)) s = true
    · simp only [btX, tkB, bi, c1, c2, if_true, if_false]
    · simp only [btX, tkB, bi, c1, c2, if_true, if_false, Bool.false_eq_true]
  · by_cases c2 : srv (b_fol D s 0 (D 0 0)) s = true
    · simp only [btX, tkB, bi, c1, c2, if_true, if_false, Bool.false_eq_true]
    · simp only [btX, tkB, bi, c1, c2, if_true, if_false, Bool.false_eq_true]
end XE
