/-! the methods of the reference: tick and the calls -/
def lvI (m : Nat) : Int32 := if m = 0 then -1 else nI (m - 1)
theorem lvI_s (m : Nat) : lvI (m + 1) = nI m := by simp [lvI]
theorem lvI_m (m : Nat) : nI m + -1 = lvI m := by
  cases m with
  | zero => decide
  | succ m => rw [lvI_s]; exact pk_m1 m
theorem lvI_b (m : Nat) : nI m - 1 = lvI m := by
  cases m with
  | zero => decide
  | succ m => rw [lvI_s]; exact nI_pred m
/-- the loop that takes old mail out, from above -/
def flX (c : (Nat → Nat → Int32) → Nat → Bool) : Nat → (Nat → Nat → Int32) → (Nat → Nat → Int32)
  | 0, D => D
  | m + 1, D => flX c m (if c D m = true then oX D ((D 20 0).toNatClampNeg - 1) m else D)
theorem oX_k {D : Nat → Nat → Int32} {n k j i : Nat} (h : j ≠ 20 ∧ j ≠ 21) : oX D n k j i = D j i := by
  unfold oX
  rw [u2_k _ _ _ _ h.1]
  exact lp_k (fun D a => u2_k _ _ _ _ h.2) _ _ _
theorem oX_20 {D : Nat → Nat → Int32} {n k : Nat} : oX D n k 20 0 = nI n := by
  unfold oX
  exact u2_s _ _ _ _
theorem flX_k (c : (Nat → Nat → Int32) → Nat → Bool) {j i : Nat} (h : j ≠ 20 ∧ j ≠ 21) : ∀ (m : Nat) (D : Nat → Nat → Int32), flX c m D j i = D j i := by
  intro m
  induction m with
  | zero => intro D; rfl
  | succ m ih =>
    intro D
    unfold flX
    rw [ih]
    split
    · exact oX_k h
    · rfl
theorem flX_ok (c : (Nat → Nat → Int32) → Nat → Bool) : ∀ (m : Nat) (D : Nat → Nat → Int32) (n : Nat), m ≤ n → n ≤ 24 → D 20 0 = nI n → cOK (flX c m D) := by
  intro m
  induction m with
  | zero => intro D n h1 h2 h3; exact ⟨n, h2, h3⟩
  | succ m ih =>
    intro D n h1 h2 h3
    unfold flX
    have h9 : (D 20 0).toNatClampNeg = n := by rw [h3, nI_clamp (by omega)]
    split
    · exact ih _ (n - 1) (by omega) (by omega) (by rw [oX_20, h9])
    · exact ih _ n (by omega) h2 h3
def c_old (D : Nat → Nat → Int32) (m : Nat) : Bool := !decide (D 0 0 - D 21 (12 * m + 5) ≤ 3)
def c_btw (D : Nat → Nat → Int32) (m : Nat) : Bool := !decide (D 21 (12 * m) ≤ 3)
def b_dr2 (now : Int32) (D : Nat → Nat → Int32) (c : Nat) : Nat → Nat → Int32 := if D 15 c < 0 then D else if now ≤ D 16 c then D else u2 (u2 D 15 c (-1)) 16 c 0
theorem b_dr2_k {now : Int32} {B : Nat → Nat → Int32} {c k i : Nat} (h : k ≠ 15 ∧ k ≠ 16) : b_dr2 now B c k i = B k i := by
  unfold b_dr2
  split
  · rfl
  · split
    · rfl
    · rw [u2_k _ _ _ _ h.2, u2_k _ _ _ _ h.1]
theorem teX_ok {s : Nat} {D : Nat → Nat → Int32} (h : cOK D) : cOK (teX s D) := by
  unfold teX
  split
  · exact suX_ok s _ _ _ _ h
  · split
    · exact dmS_ok h
    · exact h
theorem btX_ok {s : Nat} {D : Nat → Nat → Int32} (h : cOK D) : cOK (btX s D) := by
  have h2 : cOK (tkB s D) := by
    obtain ⟨n, hn, hc⟩ := h
    exact ⟨n, hn, by rw [tkB_k (by omega)]; exact hc⟩
  unfold btX
  split
  · exact teX_ok h2
  · exact h2
theorem btX_k {s k i : Nat} {D : Nat → Nat → Int32} (h : (k < 7 ∨ 14 < k) ∧ k ≠ 2 ∧ k ≠ 20 ∧ k ≠ 21 ∧ k ≠ 23) : btX s D k i = D k i := by
  unfold btX
  split
  · unfold teX
    split
    · rw [suX_k s h.2.2]
      exact tkB_k ⟨h.1, h.2.1⟩
    · split
      · unfold dmS
        rw [pX_k ⟨h.2.2.1, h.2.2.2.1⟩, u2_k _ _ _ _ h.2.2.2.2, bgn_k h.2.2.2.2]
        exact tkB_k ⟨h.1, h.2.1⟩
      · exact tkB_k ⟨h.1, h.2.1⟩
  · exact tkB_k ⟨h.1, h.2.1⟩
def bt2 (D : Nat → Nat → Int32) (s : Nat) : Nat → Nat → Int32 := if D 2 s = 0 then D else btX s D
theorem bt2_ok {s : Nat} {D : Nat → Nat → Int32} (h : cOK D) : cOK (bt2 D s) := by
  unfold bt2
  split
  · exact h
  · exact btX_ok h
theorem bt2_k {s k i : Nat} {D : Nat → Nat → Int32} (h : (k < 7 ∨ 14 < k) ∧ k ≠ 2 ∧ k ≠ 20 ∧ k ≠ 21 ∧ k ≠ 23) : bt2 D s k i = D k i := by
  unfold bt2
  split
  · rfl
  · exact btX_k h
section XF
variable {dA ad ix : Nat → Nat} {B E D : Nat → Nat → Int32} {π : Nat → Nat} {τ d : Nat} {Q : Option Value → pz_F → Prop}

set_option maxHeartbeats 400000 in
set_option maxRecDepth 20000 in
theorem i117a (hA : ∀ i, ix (ad i) = i) {m n : Nat} (hm : m < n) (hn : n ≤ 24) (hc : D 20 0 = nI n) : pz_R dA (d + 1) 117 17 [.ref (ad 100), .int (nI m)] [] (pz_wf ad ix (cw dA ad B E π τ D)) Q = pz_R dA (d + 1) 117 17 [.ref (ad 100), .int (lvI m)] [] (pz_wf ad ix (cw dA ad B E π τ (if c_old D m = true then oX D ((D 20 0).toNatClampNeg - 1) m else D))) Q := by
  have hx1 : (nI m < 0) = False := by simp only [eq_iff_iff, iff_false]; exact nI_pos (by omega)
  have h9 : (D 20 0).toNatClampNeg = n := by rw [hc, nI_clamp (by omega)]
  have hc1 : D 20 0 = nI (n - 1 + 1) := by rw [hc]; congr 1; omega
  rw [q117_17]
  simp only [pz_o_s, wf_gf hA, wf_gu hA, wf_pf hA, wf_il hA, wf_is hA, wf_rl hA, wf_rs hA, Option.map_some, Option.toList_some, Option.toList_none, List.cons_append, List.nil_append, List.length_cons, List.length_nil, Nat.reduceAdd, Nat.reduceLeDiff, Nat.zero_le, u2_e, Nat.reduceEqDiff, false_and, and_false, true_and, and_true, if_false, if_true, i10, i01, q117_18, q117_21, q117_22, q117_25, q117_26, q117_29, q117_31, q117_32, q117_33, q117_34, q117_35, q117_36, q117_37, q117_38, q117_41, q117_42, q117_43, q117_46, q117_49, gu_X, gf_X0, gf_X1, gf_X2, gf_X3, gf_X4, gf_X5, gf_X6, gf_X7, gf_X8, gf_X9, gf_X10, gf_X11, gf_X12, gf_X13, gf_X14, gf_X15, gf_X16, gf_X17, gf_X18, gf_X19, gf_X20, gf_X21, gf_X22, gf_X23, pf_X0, pf_X1, pf_X20, hx1, tw_mul, il_21 (show 12 * m + 5 < 288 by omega), lvI_m, m96 hA (k := m) (n := n - 1) (by omega) (by omega) hc1, h9, show nI (12 * m) + 5 = nI (12 * m + 5) from nI_add (12 * m) 5]
  by_cases a1 : c_old D m = true
  · have a2 := a1
    unfold c_old at a2
    simp only [Bool.not_eq_true', decide_eq_false_iff_not] at a2
    simp only [a1, a2, if_true, if_false]
  · have a2 := a1
    unfold c_old at a2
    simp only [Bool.not_eq_true', decide_eq_false_iff_not, Decidable.not_not] at a2
    simp only [a1, a2, if_true, if_false, Bool.false_eq_true]
set_option maxHeartbeats 400000 in
set_option maxRecDepth 20000 in
theorem x117a (hA : ∀ i, ix (ad i) = i) : pz_R dA d 117 17 [.ref (ad 100), .int (lvI 0)] [] (pz_wf ad ix (cw dA ad B E π τ D)) Q = pz_R dA d 117 52 [.ref (ad 100), .int (-1)] [] (pz_wf ad ix (cw dA ad B E π τ D)) Q := by
  have h0 : lvI 0 = -1 := rfl
  rw [h0, q117_17]
  simp only [pz_o_s, wf_gf hA, wf_gu hA, wf_pf hA, wf_il hA, wf_is hA, wf_rl hA, wf_rs hA, Option.map_some, Option.toList_some, Option.toList_none, List.cons_append, List.nil_append, List.length_cons, List.length_nil, Nat.reduceAdd, Nat.reduceLeDiff, Nat.zero_le, u2_e, Nat.reduceEqDiff, false_and, and_false, true_and, and_true, if_false, if_true, i10, i01, q117_18, q117_21, q117_22, q117_25, q117_26, q117_29, q117_31, q117_32, q117_33, q117_34, q117_35, q117_36, q117_37, q117_38, q117_41, q117_42, q117_43, q117_46, q117_49, show ((-1 : Int32) < 0) = True by decide]
theorem l117a (hA : ∀ i, ix (ad i) = i) : ∀ (m n : Nat) (D : Nat → Nat → Int32), m ≤ n → n ≤ 24 → D 20 0 = nI n → pz_R dA (d + 1) 117 17 [.ref (ad 100), .int (lvI m)] [] (pz_wf ad ix (cw dA ad B E π τ D)) Q = pz_R dA (d + 1) 117 52 [.ref (ad 100), .int (-1)] [] (pz_wf ad ix (cw dA ad B E π τ (flX c_old m D))) Q := by
  intro m
  induction m with
  | zero =>
    intro n D h1 h2 h3
    exact x117a hA
  | succ m ih =>
    intro n D h1 h2 h3
    rw [lvI_s, i117a hA (by omega) h2 h3]
    have h9 : (D 20 0).toNatClampNeg = n := by rw [h3, nI_clamp (by omega)]
    by_cases a1 : c_old D m = true
    · rw [if_pos a1, ih (n - 1) _ (by omega) (by omega) (by rw [oX_20, h9])]
      simp only [flX, a1, if_true]
    · rw [if_neg a1, ih n _ (by omega) h2 h3]
      simp only [flX, a1, if_false, Bool.false_eq_true]
set_option maxHeartbeats 400000 in
set_option maxRecDepth 20000 in
theorem i117b (hA : ∀ i, ix (ad i) = i) {c : Nat} (hcl : c < 5) : pz_R dA d 117 54 [.ref (ad 100), .int (nI c)] [] (pz_wf ad ix (cw dA ad B E π τ D)) Q = pz_R dA d 117 54 [.ref (ad 100), .int (nI (c + 1))] [] (pz_wf ad ix (cw dA ad B E π τ (b_dr2 (D 0 0) D c))) Q := by
  rw [q117_54]
  simp only [pz_o_s, wf_gf hA, wf_gu hA, wf_pf hA, wf_il hA, wf_is hA, wf_rl hA, wf_rs hA, Option.map_some, Option.toList_some, Option.toList_none, List.cons_append, List.nil_append, List.length_cons, List.length_nil, Nat.reduceAdd, Nat.reduceLeDiff, Nat.zero_le, u2_e, Nat.reduceEqDiff, false_and, and_false, true_and, and_true, if_false, if_true, i10, i01, q117_55, q117_56, q117_59, q117_60, q117_63, q117_64, q117_65, q117_68, q117_69, q117_72, q117_73, q117_74, q117_75, q117_78, q117_81, q117_82, q117_85, q117_86, q117_87, q117_88, q117_89, q117_92, q117_93, q117_94, q117_95, q117_98, gu_X, gf_X0, gf_X1, gf_X2, gf_X3, gf_X4, gf_X5, gf_X6, gf_X7, gf_X8, gf_X9, gf_X10, gf_X11, gf_X12, gf_X13, gf_X14, gf_X15, gf_X16, gf_X17, gf_X18, gf_X19, gf_X20, gf_X21, gf_X22, gf_X23, pf_X0, pf_X1, pf_X20, il_15 hcl, il_16 hcl, il_17 hcl, il_18 hcl, il_19 hcl, is_15 hcl, is_16 hcl, is_17 hcl, is_18 hcl, is_19 hcl, lt5 hcl, nI_1]
  by_cases a1 : D 15 c < 0 <;> by_cases a2 : D 0 0 ≤ D 16 c <;> simp [b_dr2, a1, a2]
set_option maxHeartbeats 400000 in
set_option maxRecDepth 20000 in
theorem x117b (hA : ∀ i, ix (ad i) = i) : pz_R dA d 117 54 [.ref (ad 100), .int (nI 5)] [] (pz_wf ad ix (cw dA ad B E π τ D)) Q = pz_R dA d 117 103 [.ref (ad 100), .int 0] [] (pz_wf ad ix (cw dA ad B E π τ D)) Q := by
  rw [q117_54]
  simp only [pz_o_s, wf_gf hA, wf_gu hA, wf_pf hA, wf_il hA, wf_is hA, wf_rl hA, wf_rs hA, Option.map_some, Option.toList_some, Option.toList_none, List.cons_append, List.nil_append, List.length_cons, List.length_nil, Nat.reduceAdd, Nat.reduceLeDiff, Nat.zero_le, u2_e, Nat.reduceEqDiff, false_and, and_false, true_and, and_true, if_false, if_true, i10, i01, q117_55, q117_56, q117_59, q117_60, q117_63, q117_64, q117_65, q117_68, q117_69, q117_72, q117_73, q117_74, q117_75, q117_78, q117_81, q117_82, q117_85, q117_86, q117_87, q117_88, q117_89, q117_92, q117_93, q117_94, q117_95, q117_98, q117_101, q117_102, le5]
theorem l117b (hA : ∀ i, ix (ad i) = i) {now : Int32} : ∀ (t i : Nat) (D : Nat → Nat → Int32), i + t = 5 → D 0 0 = now → pz_R dA d 117 54 [.ref (ad 100), .int (nI i)] [] (pz_wf ad ix (cw dA ad B E π τ D)) Q = pz_R dA d 117 103 [.ref (ad 100), .int 0] [] (pz_wf ad ix (cw dA ad B E π τ (lp (b_dr2 now) t i D))) Q := by
  intro t
  induction t with
  | zero =>
    intro i D h hb
    have h : i = 5 := h
    subst h
    exact x117b hA
  | succ t ih =>
    intro i D h hb
    rw [i117b hA (by omega), hb, ih (i + 1) _ (by omega) (by rw [b_dr2_k (by decide)]; exact hb)]
    rfl
set_option maxHeartbeats 400000 in
set_option maxRecDepth 20000 in
theorem i117c (hA : ∀ i, ix (ad i) = i) {s : Nat} (hs : s < 2) (hk : cOK D) : pz_R dA (d + 3) 117 103 [.ref (ad 100), .int (nI s)] [] (pz_wf ad ix (cw dA ad B E π τ D)) Q = pz_R dA (d + 3) 117 103 [.ref (ad 100), .int (nI (s + 1))] [] (pz_wf ad ix (cw dA ad B E π τ (bt2 D s))) Q := by
  rw [q117_103]
  simp only [pz_o_s, wf_gf hA, wf_gu hA, wf_pf hA, wf_il hA, wf_is hA, wf_rl hA, wf_rs hA, Option.map_some, Option.toList_some, Option.toList_none, List.cons_append, List.nil_append, List.length_cons, List.length_nil, Nat.reduceAdd, Nat.reduceLeDiff, Nat.zero_le, u2_e, Nat.reduceEqDiff, false_and, and_false, true_and, and_true, if_false, if_true, i10, i01, q117_104, q117_105, q117_108, q117_109, q117_112, q117_113, q117_114, q117_117, q117_118, q117_119, q117_122, q117_125, gu_X, gf_X0, gf_X1, gf_X2, gf_X3, gf_X4, gf_X5, gf_X6, gf_X7, gf_X8, gf_X9, gf_X10, gf_X11, gf_X12, gf_X13, gf_X14, gf_X15, gf_X16, gf_X17, gf_X18, gf_X19, gf_X20, gf_X21, gf_X22, gf_X23, pf_X0, pf_X1, pf_X20, il_2 hs, il_3 hs, il_4 hs, il_5 hs, il_6 hs, is_2 hs, is_3 hs, is_4 hs, is_5 hs, is_6 hs, lt2 hs, nI_1, m116 hA hs hk]
  by_cases h1 : D 2 s = 0 <;> simp [bt2, h1]
set_option maxHeartbeats 400000 in
set_option maxRecDepth 20000 in
theorem x117c (hA : ∀ i, ix (ad i) = i) : pz_R dA d 117 103 [.ref (ad 100), .int (nI 2)] [] (pz_wf ad ix (cw dA ad B E π τ D)) Q = Q (some (.int (D 0 0))) (pz_wf ad ix (cw dA ad B E π τ D)) := by
  rw [q117_103]
  simp only [pz_o_s, wf_gf hA, wf_gu hA, wf_pf hA, wf_il hA, wf_is hA, wf_rl hA, wf_rs hA, Option.map_some, Option.toList_some, Option.toList_none, List.cons_append, List.nil_append, List.length_cons, List.length_nil, Nat.reduceAdd, Nat.reduceLeDiff, Nat.zero_le, u2_e, Nat.reduceEqDiff, false_and, and_false, true_and, and_true, if_false, if_true, i10, i01, q117_104, q117_105, q117_108, q117_109, q117_112, q117_113, q117_114, q117_117, q117_118, q117_119, q117_122, q117_125, q117_128, q117_129, q117_132, gu_X, gf_X0, gf_X1, gf_X2, gf_X3, gf_X4, gf_X5, gf_X6, gf_X7, gf_X8, gf_X9, gf_X10, gf_X11, gf_X12, gf_X13, gf_X14, gf_X15, gf_X16, gf_X17, gf_X18, gf_X19, gf_X20, gf_X21, gf_X22, gf_X23, pf_X0, pf_X1, pf_X20, le2]
def tX1 (n : Nat) (D : Nat → Nat → Int32) : Nat → Nat → Int32 := flX c_old n (u2 D 0 0 (D 0 0 + 1))
def tX2 (n : Nat) (D : Nat → Nat → Int32) : Nat → Nat → Int32 := lp (b_dr2 (D 0 0 + 1)) 5 0 (tX1 n D)
def tX3 (n : Nat) (D : Nat → Nat → Int32) : Nat → Nat → Int32 := bt2 (bt2 (tX2 n D) 0) 1
set_option maxHeartbeats 400000 in
set_option maxRecDepth 20000 in
theorem m117 (hA : ∀ i, ix (ad i) = i) {n : Nat} (hn : n ≤ 24) (hc : D 20 0 = nI n) : pz_C dA (d + 3) 117 [.ref (ad 100)] (pz_wf ad ix (cw dA ad B E π τ D)) Q = Q (some (.int (D 0 0 + 1))) (pz_wf ad ix (cw dA ad B E π τ (tX3 n D))) := by
  have hc0 : u2 D 0 0 (D 0 0 + 1) 20 0 = nI n := by rw [u2_k _ _ _ _ (by decide)]; exact hc
  have k1 : flX c_old n (u2 D 0 0 (D 0 0 + 1)) = tX1 n D := rfl
  have k2 : lp (b_dr2 (D 0 0 + 1)) 5 0 (tX1 n D) = tX2 n D := rfl
  have k3 : bt2 (bt2 (tX2 n D) 0) 1 = tX3 n D := rfl
  have z1 : tX1 n D 0 0 = D 0 0 + 1 := by rw [← k1, flX_k _ (by decide), u2_s]
  have z2 : tX2 n D 0 0 = D 0 0 + 1 := by rw [← k2, lp_k (fun D a => b_dr2_k (by decide))]; exact z1
  have z3 : tX3 n D 0 0 = D 0 0 + 1 := by rw [← k3, bt2_k (by decide), bt2_k (by decide)]; exact z2
  have o1 : cOK (tX1 n D) := flX_ok _ n _ n (Nat.le_refl n) hn hc0
  have o2 : cOK (tX2 n D) := by
    obtain ⟨j, hj, hcj⟩ := o1
    exact ⟨j, hj, by rw [← k2, lp_k (fun D a => b_dr2_k (by decide))]; exact hcj⟩
  generalize tX1 n D = D1 at *
  generalize tX2 n D = D2 at *
  generalize tX3 n D = D3 at *
  rw [e117]
  simp only [pz_o_s, wf_gf hA, wf_gu hA, wf_pf hA, wf_il hA, wf_is hA, wf_rl hA, wf_rs hA, Option.map_some, Option.toList_some, Option.toList_none, List.cons_append, List.nil_append, List.length_cons, List.length_nil, Nat.reduceAdd, Nat.reduceLeDiff, Nat.zero_le, u2_e, Nat.reduceEqDiff, false_and, and_false, true_and, and_true, if_false, if_true, i10, i01, q117_0, q117_1, q117_2, q117_5, q117_6, q117_7, q117_10, q117_11, q117_14, q117_15, q117_16, gu_X, gf_X0, gf_X1, gf_X2, gf_X3, gf_X4, gf_X5, gf_X6, gf_X7, gf_X8, gf_X9, gf_X10, gf_X11, gf_X12, gf_X13, gf_X14, gf_X15, gf_X16, gf_X17, gf_X18, gf_X19, gf_X20, gf_X21, gf_X22, gf_X23, pf_X0, pf_X1, pf_X20, hc, lvI_b]
  rw [l117a hA n n _ (Nat.le_refl n) hn hc0, k1]
  simp only [q117_52, q117_53]
  have h1 := l117b (dA := dA) (ad := ad) (ix := ix) (B := B) (E := E) (π := π) (τ := τ) (Q := Q) (d := d + 3) hA (now := D 0 0 + 1) 5 0 D1 (by omega) z1
  rw [nI_0, k2] at h1
  rw [h1]
  have h2 := i117c (dA := dA) (ad := ad) (ix := ix) (B := B) (E := E) (π := π) (τ := τ) (Q := Q) (d := d) hA (s := 0) (by decide) o2
  rw [nI_0] at h2
  rw [h2, i117c hA (s := 1) (by decide) (bt2_ok o2), x117c hA, k3, z3]
end XF
