/-! the reads of the reference -/
theorem rng6 (w : Int32) : (w < 0 ∨ 5 < w) ∨ w = 0 ∨ w = 1 ∨ w = 2 ∨ w = 3 ∨ w = 4 ∨ w = 5 := by
  have h0 : (0 : Int32).toInt = 0 := by decide
  have h1 : (1 : Int32).toInt = 1 := by decide
  have h2 : (2 : Int32).toInt = 2 := by decide
  have h3 : (3 : Int32).toInt = 3 := by decide
  have h4 : (4 : Int32).toInt = 4 := by decide
  have h5 : (5 : Int32).toInt = 5 := by decide
  simp only [Int32.lt_iff_toInt_lt, i32_eq, h0, h1, h2, h3, h4, h5]
  omega
theorem rng4 (w : Int32) : (w < 0 ∨ 3 < w) ∨ w = 0 ∨ w = 1 ∨ w = 2 ∨ w = 3 := by
  have h0 : (0 : Int32).toInt = 0 := by decide
  have h1 : (1 : Int32).toInt = 1 := by decide
  have h2 : (2 : Int32).toInt = 2 := by decide
  have h3 : (3 : Int32).toInt = 3 := by decide
  simp only [Int32.lt_iff_toInt_lt, i32_eq, h0, h1, h2, h3]
  omega
theorem nle_lt {x y : Int32} (h : x < y) : ¬ y ≤ x := Int32.not_le.mpr h
theorem lt_ne {x y : Int32} (h : x < y) : ¬ x = y := fun q => by
  rw [q, Int32.lt_iff_toInt_lt] at h
  omega
theorem lt_ne2 {x y : Int32} (h : x < y) : ¬ y = x := fun q => by
  rw [q, Int32.lt_iff_toInt_lt] at h
  omega
theorem lt_tr {x y z : Int32} (h : x < y) (h2 : y < z) : x < z := by
  rw [Int32.lt_iff_toInt_lt] at *
  omega
/-- a part of a mail, as the reference tells it -/
def lkX (m : Nat → Int32) (w : Int32) : Int32 := if w = 0 then m 0 else if w = 1 then m 1 else if w = 2 then m 2 else if w = 3 then m 3 else if w = 4 then m 4 else if w = 5 then m 5 else -2
section XH
variable {dA ad ix : Nat → Nat} {B E D : Nat → Nat → Int32} {π : Nat → Nat} {τ d : Nat} {Q : Option Value → pz_F → Prop}

theorem n65 {y : Int32} (h2 : ¬ y < 6) : 5 < y := by
  have e1 : (6 : Int32).toInt = 6 := by decide
  have e2 : (5 : Int32).toInt = 5 := by decide
  rw [Int32.lt_iff_toInt_lt, e1] at h2
  rw [Int32.lt_iff_toInt_lt, e2]
  omega
theorem ysv {x : Int32} {A B : Prop} (h : ¬ x < 0) (h2 : ¬ 2 ≤ x) : (if x = 0 then A else if x = 1 then A else B) = A := by
  have e0 : (0 : Int32).toInt = 0 := by decide
  have e1 : (1 : Int32).toInt = 1 := by decide
  have e2 : (2 : Int32).toInt = 2 := by decide
  rw [Int32.lt_iff_toInt_lt, e0] at h
  rw [Int32.le_iff_toInt_le, e2] at h2
  have h3 : x = 0 ∨ x = 1 := by
    simp only [i32_eq, e0, e1]
    omega
  rcases h3 with rfl | rfl
  · exact if_pos rfl
  · rw [if_neg (by decide), if_pos rfl]
set_option maxHeartbeats 400000 in
set_option maxRecDepth 20000 in
theorem m125n (hA : ∀ i, ix (ad i) = i) {x y w : Int32} (hx : (x < 0 ∨ (¬ x < 0 ∧ 2 ≤ x)) ∨ (¬ x < 0 ∧ ¬ 2 ≤ x ∧ (y < 0 ∨ (¬ y < 0 ∧ ¬ y < 6)))) : pz_C dA (d + 1) 125 [.ref (ad 100), .int x, .int y, .int w] (pz_wf ad ix (cw dA ad B E π τ D)) Q = Q (some (.int (-2))) (pz_wf ad ix (cw dA ad B E π τ D)) := by
  rw [e125]
  simp only [pz_o_s, wf_gf hA, wf_gu hA, wf_pf hA, wf_il hA, wf_is hA, wf_rl hA, wf_rs hA, Option.map_some, Option.toList_some, Option.toList_none, List.cons_append, List.nil_append, List.length_cons, List.length_nil, Nat.reduceAdd, Nat.reduceLeDiff, Nat.zero_le, u2_e, Nat.reduceEqDiff, false_and, and_false, true_and, and_true, if_false, if_true, i10, i01, q125_0, q125_1, q125_4, q125_7, q125_8, q125_11, q125_12, q125_13, q125_16, q125_18, q125_19, m87 hA]
  rcases hx with h | ⟨h, h2, h3⟩
  · exact nsv h
  · rw [ysv h h2]
    rcases h3 with h3 | ⟨h3, h4⟩
    · simp only [h3, if_true]
    · simp only [h3, n65 h4, nle_lt (n65 h4), if_true, if_false]
set_option maxHeartbeats 400000 in
set_option maxRecDepth 20000 in
theorem m125 (hA : ∀ i, ix (ad i) = i) {s a : Nat} (hs : s < 2) (ha : a < 6) {w : Int32} : pz_C dA (d + 1) 125 [.ref (ad 100), .int (nI s), .int (nI a), .int w] (pz_wf ad ix (cw dA ad B E π τ D)) Q = Q (some (.int (lkR D (6 * s + a) w))) (pz_wf ad ix (cw dA ad B E π τ D)) := by
  have hsv : ∀ (A B : Prop), (if nI s = 0 then A else if nI s = 1 then A else B) = A := by
    intro A B
    rcases (show s = 0 ∨ s = 1 by omega) with rfl | rfl
    · exact if_pos rfl
    · rw [if_neg (by decide), if_pos (by decide)]
  have hy1 : (nI a < 0) = False := by simp only [eq_iff_iff, iff_false]; exact nI_pos (by omega)
  have hy2 : (nI a ≤ (5 : Int32)) = True := by simp only [eq_iff_iff, iff_true]; exact nI_le (b := 5) (by omega) (by decide)
  rw [e125]
  simp only [pz_o_s, wf_gf hA, wf_gu hA, wf_pf hA, wf_il hA, wf_is hA, wf_rl hA, wf_rs hA, Option.map_some, Option.toList_some, Option.toList_none, List.cons_append, List.nil_append, List.length_cons, List.length_nil, Nat.reduceAdd, Nat.reduceLeDiff, Nat.zero_le, u2_e, Nat.reduceEqDiff, false_and, and_false, true_and, and_true, if_false, if_true, i10, i01, q125_0, q125_1, q125_4, q125_7, q125_8, q125_11, q125_12, q125_13, q125_16, q125_18, q125_19, q125_21, q125_22, q125_23, q125_24, q125_25, q125_27, q125_28, q125_76, q125_77, q125_80, q125_82, q125_83, q125_84, q125_85, q125_88, q125_90, q125_91, q125_92, q125_93, q125_96, q125_98, q125_99, q125_100, q125_101, q125_104, q125_106, q125_107, q125_108, q125_109, q125_112, q125_114, q125_115, q125_116, q125_117, q125_120, q125_122, q125_123, q125_124, q125_125, q125_128, q125_130, q125_131, q125_132, q125_133, q125_136, q125_138, q125_139, q125_142, q125_143, q125_146, q125_147, q125_148, q125_150, gu_X, gf_X0, gf_X1, gf_X2, gf_X3, gf_X4, gf_X5, gf_X6, gf_X7, gf_X8, gf_X9, gf_X10, gf_X11, gf_X12, gf_X13, gf_X14, gf_X15, gf_X16, gf_X17, gf_X18, gf_X19, gf_X20, gf_X21, gf_X22, gf_X23, pf_X0, pf_X1, pf_X20, il_7 (show 6 * s + a < 12 by omega), il_8 (show 6 * s + a < 12 by omega), il_9 (show 6 * s + a < 12 by omega), il_10 (show 6 * s + a < 12 by omega), il_11 (show 6 * s + a < 12 by omega), il_12 (show 6 * s + a < 12 by omega), il_13 (show 6 * s + a < 12 by omega), il_14 (show 6 * s + a < 12 by omega), m87 hA, hsv, hy1, hy2, sx_mul, nI_add]
  unfold lkR
  repeat' split
  all_goals rfl
set_option maxHeartbeats 400000 in
set_option maxRecDepth 20000 in
theorem m126n (hA : ∀ i, ix (ad i) = i) {x w : Int32} (hx : x < 0 ∨ (¬ x < 0 ∧ 5 ≤ x)) : pz_C dA (d + 1) 126 [.ref (ad 100), .int x, .int w] (pz_wf ad ix (cw dA ad B E π τ D)) Q = Q (some (.int (-2))) (pz_wf ad ix (cw dA ad B E π τ D)) := by
  rw [e126]
  simp only [pz_o_s, wf_gf hA, wf_gu hA, wf_pf hA, wf_il hA, wf_is hA, wf_rl hA, wf_rs hA, Option.map_some, Option.toList_some, Option.toList_none, List.cons_append, List.nil_append, List.length_cons, List.length_nil, Nat.reduceAdd, Nat.reduceLeDiff, Nat.zero_le, u2_e, Nat.reduceEqDiff, false_and, and_false, true_and, and_true, if_false, if_true, i10, i01, q126_0, q126_1, q126_4, q126_7, q126_8, q126_11, q126_12, q126_13, q126_16, q126_18, m88 hA]
  rcases hx with h | ⟨h, h2⟩
  · simp only [h, if_true]
  · simp only [h, n45 h h2, if_true, if_false]
set_option maxHeartbeats 400000 in
set_option maxRecDepth 20000 in
theorem m126 (hA : ∀ i, ix (ad i) = i) {c : Nat} (hcl : c < 5) {w : Int32} : pz_C dA (d + 1) 126 [.ref (ad 100), .int (nI c), .int w] (pz_wf ad ix (cw dA ad B E π τ D)) Q = Q (some (.int (lkC D c w))) (pz_wf ad ix (cw dA ad B E π τ D)) := by
  have hx1 : (nI c < 0) = False := by simp only [eq_iff_iff, iff_false]; exact nI_pos (by omega)
  have hx2 : ((4 : Int32) < nI c) = False := by simp only [eq_iff_iff, iff_false]; exact nI_nlt (b := c) (a := 4) (by omega) (by decide)
  rw [e126]
  simp only [pz_o_s, wf_gf hA, wf_gu hA, wf_pf hA, wf_il hA, wf_is hA, wf_rl hA, wf_rs hA, Option.map_some, Option.toList_some, Option.toList_none, List.cons_append, List.nil_append, List.length_cons, List.length_nil, Nat.reduceAdd, Nat.reduceLeDiff, Nat.zero_le, u2_e, Nat.reduceEqDiff, false_and, and_false, true_and, and_true, if_false, if_true, i10, i01, q126_0, q126_1, q126_4, q126_7, q126_8, q126_11, q126_12, q126_13, q126_16, q126_18, q126_19, q126_20, q126_23, q126_24, q126_27, q126_28, q126_29, q126_32, q126_33, q126_34, q126_37, q126_38, q126_41, q126_42, q126_43, q126_46, q126_47, q126_48, q126_51, q126_52, q126_55, q126_56, q126_57, q126_60, q126_61, q126_64, q126_65, q126_66, q126_69, q126_70, q126_73, q126_74, gu_X, gf_X0, gf_X1, gf_X2, gf_X3, gf_X4, gf_X5, gf_X6, gf_X7, gf_X8, gf_X9, gf_X10, gf_X11, gf_X12, gf_X13, gf_X14, gf_X15, gf_X16, gf_X17, gf_X18, gf_X19, gf_X20, gf_X21, gf_X22, gf_X23, pf_X0, pf_X1, pf_X20, il_15 hcl, il_16 hcl, il_17 hcl, il_18 hcl, m88 hA, hx1, hx2]
  unfold lkC
  rcases rng4 w with (h | h) | h | h | h | h
  · have g0 := lt_ne h
    have g1 := lt_ne (lt_tr h (show (0 : Int32) < 1 by decide))
    have g2 := lt_ne (lt_tr h (show (0 : Int32) < 2 by decide))
    have g3 := lt_ne (lt_tr h (show (0 : Int32) < 3 by decide))
    simp only [h, g0, g1, g2, g3, if_true, if_false]
  · have hn : ¬ w < 0 := fun q => absurd (lt_tr h q) (by decide)
    have g0 := lt_ne2 (lt_tr (show (0 : Int32) < 3 by decide) h)
    have g1 := lt_ne2 (lt_tr (show (1 : Int32) < 3 by decide) h)
    have g2 := lt_ne2 (lt_tr (show (2 : Int32) < 3 by decide) h)
    have g3 := lt_ne2 h
    simp only [hn, h, nle_lt h, g0, g1, g2, g3, if_true, if_false]
  · subst h
    have k1 : ((0 : Int32) < 0) = False := by decide
    have k2 : ((0 : Int32) ≤ 3) = True := by decide
    have k3 : ((3 : Int32) < 0) = False := by decide
    simp only [k1, k2, k3, if_true, if_false, li_1_0, li_2_0, li_2_1, li_3_0, li_3_1, li_3_2, li_0_1, li_0_2, li_0_3, li_1_2, li_1_3, li_2_3]
  · subst h
    have k1 : ((1 : Int32) < 0) = False := by decide
    have k2 : ((1 : Int32) ≤ 3) = True := by decide
    have k3 : ((3 : Int32) < 1) = False := by decide
    simp only [k1, k2, k3, if_true, if_false, li_1_0, li_2_0, li_2_1, li_3_0, li_3_1, li_3_2, li_0_1, li_0_2, li_0_3, li_1_2, li_1_3, li_2_3]
  · subst h
    have k1 : ((2 : Int32) < 0) = False := by decide
    have k2 : ((2 : Int32) ≤ 3) = True := by decide
    have k3 : ((3 : Int32) < 2) = False := by decide
    simp only [k1, k2, k3, if_true, if_false, li_1_0, li_2_0, li_2_1, li_3_0, li_3_1, li_3_2, li_0_1, li_0_2, li_0_3, li_1_2, li_1_3, li_2_3]
  · subst h
    have k1 : ((3 : Int32) < 0) = False := by decide
    have k2 : ((3 : Int32) ≤ 3) = True := by decide
    have k3 : ((3 : Int32) < 3) = False := by decide
    simp only [k1, k2, k3, if_true, if_false, li_1_0, li_2_0, li_2_1, li_3_0, li_3_1, li_3_2, li_0_1, li_0_2, li_0_3, li_1_2, li_1_3, li_2_3]
    split <;> rfl
set_option maxHeartbeats 400000 in
set_option maxRecDepth 20000 in
theorem m128n (hA : ∀ i, ix (ad i) = i) {x w : Int32} (hx : x < 0 ∨ (¬ x < 0 ∧ D 20 0 ≤ x)) : pz_C dA d 128 [.ref (ad 100), .int x, .int w] (pz_wf ad ix (cw dA ad B E π τ D)) Q = Q (some (.int (-2))) (pz_wf ad ix (cw dA ad B E π τ D)) := by
  rw [e128]
  rcases hx with h | ⟨h, h2⟩
  · simp only [pz_o_s, wf_gf hA, wf_gu hA, wf_pf hA, wf_il hA, wf_is hA, wf_rl hA, wf_rs hA, Option.map_some, Option.toList_some, Option.toList_none, List.cons_append, List.nil_append, List.length_cons, List.length_nil, Nat.reduceAdd, Nat.reduceLeDiff, Nat.zero_le, u2_e, Nat.reduceEqDiff, false_and, and_false, true_and, and_true, if_false, if_true, i10, i01, q128_0, q128_1, q128_4, q128_5, q128_6, q128_9, q128_12, q128_13, q128_16, q128_17, q128_18, q128_21, q128_23, q128_37, gu_X, gf_X0, gf_X1, gf_X2, gf_X3, gf_X4, gf_X5, gf_X6, gf_X7, gf_X8, gf_X9, gf_X10, gf_X11, gf_X12, gf_X13, gf_X14, gf_X15, gf_X16, gf_X17, gf_X18, gf_X19, gf_X20, gf_X21, gf_X22, gf_X23, pf_X0, pf_X1, pf_X20, h]
  · simp only [pz_o_s, wf_gf hA, wf_gu hA, wf_pf hA, wf_il hA, wf_is hA, wf_rl hA, wf_rs hA, Option.map_some, Option.toList_some, Option.toList_none, List.cons_append, List.nil_append, List.length_cons, List.length_nil, Nat.reduceAdd, Nat.reduceLeDiff, Nat.zero_le, u2_e, Nat.reduceEqDiff, false_and, and_false, true_and, and_true, if_false, if_true, i10, i01, q128_0, q128_1, q128_4, q128_5, q128_6, q128_9, q128_12, q128_13, q128_16, q128_17, q128_18, q128_21, q128_23, q128_37, gu_X, gf_X0, gf_X1, gf_X2, gf_X3, gf_X4, gf_X5, gf_X6, gf_X7, gf_X8, gf_X9, gf_X10, gf_X11, gf_X12, gf_X13, gf_X14, gf_X15, gf_X16, gf_X17, gf_X18, gf_X19, gf_X20, gf_X21, gf_X22, gf_X23, pf_X0, pf_X1, pf_X20, h, h2]
set_option maxHeartbeats 400000 in
set_option maxRecDepth 20000 in
theorem m128 (hA : ∀ i, ix (ad i) = i) {k n : Nat} (hk : k < n) (hn : n ≤ 24) (hc : D 20 0 = nI n) {w : Int32} : pz_C dA d 128 [.ref (ad 100), .int (nI k), .int w] (pz_wf ad ix (cw dA ad B E π τ D)) Q = Q (some (.int (lkX (fun j => D 21 (12 * k + j)) w))) (pz_wf ad ix (cw dA ad B E π τ D)) := by
  have hx1 : (nI k < 0) = False := by simp only [eq_iff_iff, iff_false]; exact nI_pos (by omega)
  have hx2 : (nI n ≤ nI k) = False := nle_nI hk (by omega)
  rw [e128]
  unfold lkX
  rcases rng6 w with (h | h) | h | h | h | h | h | h
  · have g0 := lt_ne h
    have g1 := lt_ne (lt_tr h (show (0 : Int32) < 1 by decide))
    have g2 := lt_ne (lt_tr h (show (0 : Int32) < 2 by decide))
    have g3 := lt_ne (lt_tr h (show (0 : Int32) < 3 by decide))
    have g4 := lt_ne (lt_tr h (show (0 : Int32) < 4 by decide))
    have g5 := lt_ne (lt_tr h (show (0 : Int32) < 5 by decide))
    simp only [pz_o_s, wf_gf hA, wf_gu hA, wf_pf hA, wf_il hA, wf_is hA, wf_rl hA, wf_rs hA, Option.map_some, Option.toList_some, Option.toList_none, List.cons_append, List.nil_append, List.length_cons, List.length_nil, Nat.reduceAdd, Nat.reduceLeDiff, Nat.zero_le, u2_e, Nat.reduceEqDiff, false_and, and_false, true_and, and_true, if_false, if_true, i10, i01, q128_0, q128_1, q128_4, q128_5, q128_6, q128_9, q128_12, q128_13, q128_16, q128_17, q128_18, q128_21, q128_23, q128_26, q128_27, q128_30, q128_32, q128_33, q128_34, q128_35, q128_36, q128_37, gu_X, gf_X0, gf_X1, gf_X2, gf_X3, gf_X4, gf_X5, gf_X6, gf_X7, gf_X8, gf_X9, gf_X10, gf_X11, gf_X12, gf_X13, gf_X14, gf_X15, gf_X16, gf_X17, gf_X18, gf_X19, gf_X20, gf_X21, gf_X22, gf_X23, pf_X0, pf_X1, pf_X20, hc, hx1, hx2, h, g0, g1, g2, g3, g4, g5]
  · have hn2 : ¬ w < 0 := fun q => absurd (lt_tr h q) (by decide)
    have g0 := lt_ne2 (lt_tr (show (0 : Int32) < 5 by decide) h)
    have g1 := lt_ne2 (lt_tr (show (1 : Int32) < 5 by decide) h)
    have g2 := lt_ne2 (lt_tr (show (2 : Int32) < 5 by decide) h)
    have g3 := lt_ne2 (lt_tr (show (3 : Int32) < 5 by decide) h)
    have g4 := lt_ne2 (lt_tr (show (4 : Int32) < 5 by decide) h)
    have g5 := lt_ne2 h
    simp only [pz_o_s, wf_gf hA, wf_gu hA, wf_pf hA, wf_il hA, wf_is hA, wf_rl hA, wf_rs hA, Option.map_some, Option.toList_some, Option.toList_none, List.cons_append, List.nil_append, List.length_cons, List.length_nil, Nat.reduceAdd, Nat.reduceLeDiff, Nat.zero_le, u2_e, Nat.reduceEqDiff, false_and, and_false, true_and, and_true, if_false, if_true, i10, i01, q128_0, q128_1, q128_4, q128_5, q128_6, q128_9, q128_12, q128_13, q128_16, q128_17, q128_18, q128_21, q128_23, q128_26, q128_27, q128_30, q128_32, q128_33, q128_34, q128_35, q128_36, q128_37, gu_X, gf_X0, gf_X1, gf_X2, gf_X3, gf_X4, gf_X5, gf_X6, gf_X7, gf_X8, gf_X9, gf_X10, gf_X11, gf_X12, gf_X13, gf_X14, gf_X15, gf_X16, gf_X17, gf_X18, gf_X19, gf_X20, gf_X21, gf_X22, gf_X23, pf_X0, pf_X1, pf_X20, hc, hx1, hx2, hn2, h, nle_lt h, g0, g1, g2, g3, g4, g5]
  · subst h
    have k1 : ((0 : Int32) < 0) = False := by decide
    have k2 : ((0 : Int32) ≤ 5) = True := by decide
    have k3 : ((5 : Int32) < 0) = False := by decide
    simp only [pz_o_s, wf_gf hA, wf_gu hA, wf_pf hA, wf_il hA, wf_is hA, wf_rl hA, wf_rs hA, Option.map_some, Option.toList_some, Option.toList_none, List.cons_append, List.nil_append, List.length_cons, List.length_nil, Nat.reduceAdd, Nat.reduceLeDiff, Nat.zero_le, u2_e, Nat.reduceEqDiff, false_and, and_false, true_and, and_true, if_false, if_true, i10, i01, q128_0, q128_1, q128_4, q128_5, q128_6, q128_9, q128_12, q128_13, q128_16, q128_17, q128_18, q128_21, q128_23, q128_26, q128_27, q128_30, q128_32, q128_33, q128_34, q128_35, q128_36, q128_37, gu_X, gf_X0, gf_X1, gf_X2, gf_X3, gf_X4, gf_X5, gf_X6, gf_X7, gf_X8, gf_X9, gf_X10, gf_X11, gf_X12, gf_X13, gf_X14, gf_X15, gf_X16, gf_X17, gf_X18, gf_X19, gf_X20, gf_X21, gf_X22, gf_X23, pf_X0, pf_X1, pf_X20, hc, hx1, hx2, k1, k2, k3, tw_mul, show nI (12 * k) + 0 = nI (12 * k + 0) from nI_add (12 * k) 0, il_21 (show 12 * k + 0 < 288 by omega), li_0_1, li_0_2, li_0_3, li_0_4, li_0_5]
  · subst h
    have k1 : ((1 : Int32) < 0) = False := by decide
    have k2 : ((1 : Int32) ≤ 5) = True := by decide
    have k3 : ((5 : Int32) < 1) = False := by decide
    simp only [pz_o_s, wf_gf hA, wf_gu hA, wf_pf hA, wf_il hA, wf_is hA, wf_rl hA, wf_rs hA, Option.map_some, Option.toList_some, Option.toList_none, List.cons_append, List.nil_append, List.length_cons, List.length_nil, Nat.reduceAdd, Nat.reduceLeDiff, Nat.zero_le, u2_e, Nat.reduceEqDiff, false_and, and_false, true_and, and_true, if_false, if_true, i10, i01, q128_0, q128_1, q128_4, q128_5, q128_6, q128_9, q128_12, q128_13, q128_16, q128_17, q128_18, q128_21, q128_23, q128_26, q128_27, q128_30, q128_32, q128_33, q128_34, q128_35, q128_36, q128_37, gu_X, gf_X0, gf_X1, gf_X2, gf_X3, gf_X4, gf_X5, gf_X6, gf_X7, gf_X8, gf_X9, gf_X10, gf_X11, gf_X12, gf_X13, gf_X14, gf_X15, gf_X16, gf_X17, gf_X18, gf_X19, gf_X20, gf_X21, gf_X22, gf_X23, pf_X0, pf_X1, pf_X20, hc, hx1, hx2, k1, k2, k3, tw_mul, show nI (12 * k) + 1 = nI (12 * k + 1) from nI_add (12 * k) 1, il_21 (show 12 * k + 1 < 288 by omega), li_1_0, li_1_2, li_1_3, li_1_4, li_1_5]
  · subst h
    have k1 : ((2 : Int32) < 0) = False := by decide
    have k2 : ((2 : Int32) ≤ 5) = True := by decide
    have k3 : ((5 : Int32) < 2) = False := by decide
    simp only [pz_o_s, wf_gf hA, wf_gu hA, wf_pf hA, wf_il hA, wf_is hA, wf_rl hA, wf_rs hA, Option.map_some, Option.toList_some, Option.toList_none, List.cons_append, List.nil_append, List.length_cons, List.length_nil, Nat.reduceAdd, Nat.reduceLeDiff, Nat.zero_le, u2_e, Nat.reduceEqDiff, false_and, and_false, true_and, and_true, if_false, if_true, i10, i01, q128_0, q128_1, q128_4, q128_5, q128_6, q128_9, q128_12, q128_13, q128_16, q128_17, q128_18, q128_21, q128_23, q128_26, q128_27, q128_30, q128_32, q128_33, q128_34, q128_35, q128_36, q128_37, gu_X, gf_X0, gf_X1, gf_X2, gf_X3, gf_X4, gf_X5, gf_X6, gf_X7, gf_X8, gf_X9, gf_X10, gf_X11, gf_X12, gf_X13, gf_X14, gf_X15, gf_X16, gf_X17, gf_X18, gf_X19, gf_X20, gf_X21, gf_X22, gf_X23, pf_X0, pf_X1, pf_X20, hc, hx1, hx2, k1, k2, k3, tw_mul, show nI (12 * k) + 2 = nI (12 * k + 2) from nI_add (12 * k) 2, il_21 (show 12 * k + 2 < 288 by omega), li_2_0, li_2_1, li_2_3, li_2_4, li_2_5]
  · subst h
    have k1 : ((3 : Int32) < 0) = False := by decide
    have k2 : ((3 : Int32) ≤ 5) = True := by decide
    have k3 : ((5 : Int32) < 3) = False := by decide
    simp only [pz_o_s, wf_gf hA, wf_gu hA, wf_pf hA, wf_il hA, wf_is hA, wf_rl hA, wf_rs hA, Option.map_some, Option.toList_some, Option.toList_none, List.cons_append, List.nil_append, List.length_cons, List.length_nil, Nat.reduceAdd, Nat.reduceLeDiff, Nat.zero_le, u2_e, Nat.reduceEqDiff, false_and, and_false, true_and, and_true, if_false, if_true, i10, i01, q128_0, q128_1, q128_4, q128_5, q128_6, q128_9, q128_12, q128_13, q128_16, q128_17, q128_18, q128_21, q128_23, q128_26, q128_27, q128_30, q128_32, q128_33, q128_34, q128_35, q128_36, q128_37, gu_X, gf_X0, gf_X1, gf_X2, gf_X3, gf_X4, gf_X5, gf_X6, gf_X7, gf_X8, gf_X9, gf_X10, gf_X11, gf_X12, gf_X13, gf_X14, gf_X15, gf_X16, gf_X17, gf_X18, gf_X19, gf_X20, gf_X21, gf_X22, gf_X23, pf_X0, pf_X1, pf_X20, hc, hx1, hx2, k1, k2, k3, tw_mul, show nI (12 * k) + 3 = nI (12 * k + 3) from nI_add (12 * k) 3, il_21 (show 12 * k + 3 < 288 by omega), li_3_0, li_3_1, li_3_2, li_3_4, li_3_5]
  · subst h
    have k1 : ((4 : Int32) < 0) = False := by decide
    have k2 : ((4 : Int32) ≤ 5) = True := by decide
    have k3 : ((5 : Int32) < 4) = False := by decide
    simp only [pz_o_s, wf_gf hA, wf_gu hA, wf_pf hA, wf_il hA, wf_is hA, wf_rl hA, wf_rs hA, Option.map_some, Option.toList_some, Option.toList_none, List.cons_append, List.nil_append, List.length_cons, List.length_nil, Nat.reduceAdd, Nat.reduceLeDiff, Nat.zero_le, u2_e, Nat.reduceEqDiff, false_and, and_false, true_and, and_true, if_false, if_true, i10, i01, q128_0, q128_1, q128_4, q128_5, q128_6, q128_9, q128_12, q128_13, q128_16, q128_17, q128_18, q128_21, q128_23, q128_26, q128_27, q128_30, q128_32, q128_33, q128_34, q128_35, q128_36, q128_37, gu_X, gf_X0, gf_X1, gf_X2, gf_X3, gf_X4, gf_X5, gf_X6, gf_X7, gf_X8, gf_X9, gf_X10, gf_X11, gf_X12, gf_X13, gf_X14, gf_X15, gf_X16, gf_X17, gf_X18, gf_X19, gf_X20, gf_X21, gf_X22, gf_X23, pf_X0, pf_X1, pf_X20, hc, hx1, hx2, k1, k2, k3, tw_mul, show nI (12 * k) + 4 = nI (12 * k + 4) from nI_add (12 * k) 4, il_21 (show 12 * k + 4 < 288 by omega), li_4_0, li_4_1, li_4_2, li_4_3, li_4_5]
  · subst h
    have k1 : ((5 : Int32) < 0) = False := by decide
    have k2 : ((5 : Int32) ≤ 5) = True := by decide
    have k3 : ((5 : Int32) < 5) = False := by decide
    simp only [pz_o_s, wf_gf hA, wf_gu hA, wf_pf hA, wf_il hA, wf_is hA, wf_rl hA, wf_rs hA, Option.map_some, Option.toList_some, Option.toList_none, List.cons_append, List.nil_append, List.length_cons, List.length_nil, Nat.reduceAdd, Nat.reduceLeDiff, Nat.zero_le, u2_e, Nat.reduceEqDiff, false_and, and_false, true_and, and_true, if_false, if_true, i10, i01, q128_0, q128_1, q128_4, q128_5, q128_6, q128_9, q128_12, q128_13, q128_16, q128_17, q128_18, q128_21, q128_23, q128_26, q128_27, q128_30, q128_32, q128_33, q128_34, q128_35, q128_36, q128_37, gu_X, gf_X0, gf_X1, gf_X2, gf_X3, gf_X4, gf_X5, gf_X6, gf_X7, gf_X8, gf_X9, gf_X10, gf_X11, gf_X12, gf_X13, gf_X14, gf_X15, gf_X16, gf_X17, gf_X18, gf_X19, gf_X20, gf_X21, gf_X22, gf_X23, pf_X0, pf_X1, pf_X20, hc, hx1, hx2, k1, k2, k3, tw_mul, show nI (12 * k) + 5 = nI (12 * k + 5) from nI_add (12 * k) 5, il_21 (show 12 * k + 5 < 288 by omega), li_5_0, li_5_1, li_5_2, li_5_3, li_5_4]
end XH
