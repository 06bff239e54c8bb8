/-! the calls of the reference -/
section XG
variable {dA ad ix : Nat → Nat} {B E D : Nat → Nat → Int32} {π : Nat → Nat} {τ d : Nat} {Q : Option Value → pz_F → Prop}

theorem nsv {x : Int32} {A B : Prop} (hx : x < 0 ∨ (¬ x < 0 ∧ 2 ≤ x)) : (if x = 0 then A else if x = 1 then A else B) = B := by
  have h0 : (0 : Int32).toInt = 0 := by decide
  have h1 : (1 : Int32).toInt = 1 := by decide
  have h2 : (2 : Int32).toInt = 2 := by decide
  simp only [Int32.lt_iff_toInt_lt, Int32.le_iff_toInt_le, h0, h2] at hx
  rw [if_neg, if_neg]
  · intro q
    rw [q, h1] at hx
    omega
  · intro q
    rw [q, h0] at hx
    omega
theorem n45 {x : Int32} (h : ¬ x < 0) (h2 : 5 ≤ x) : 4 < x := by
  have e1 : (5 : Int32).toInt = 5 := by decide
  have e2 : (4 : Int32).toInt = 4 := by decide
  rw [Int32.le_iff_toInt_le, e1] at h2
  rw [Int32.lt_iff_toInt_lt, e2]
  omega
theorem n54 {x : Int32} (h2 : ¬ 5 ≤ x) : ¬ 4 < x := by
  have e1 : (5 : Int32).toInt = 5 := by decide
  have e2 : (4 : Int32).toInt = 4 := by decide
  rw [Int32.le_iff_toInt_le, e1] at h2
  rw [Int32.lt_iff_toInt_lt, e2]
  omega
set_option maxHeartbeats 400000 in
set_option maxRecDepth 20000 in
theorem m118n (hA : ∀ i, ix (ad i) = i) {x y : Int32} (hx : (x < 0 ∨ (¬ x < 0 ∧ 5 ≤ x)) ∨ (¬ x < 0 ∧ ¬ 5 ≤ x ∧ (y < 0 ∨ (¬ y < 0 ∧ 2 ≤ y)))) : pz_C dA (d + 1) 118 [.ref (ad 100), .int x, .int y] (pz_wf ad ix (cw dA ad B E π τ D)) Q = (Q (some (.int 0)) (pz_wf ad ix (cw dA ad B E π τ D))) := by
  rw [e118]
  simp only [pz_o_s, wf_gf hA, wf_gu hA, wf_pf hA, wf_il hA, wf_is hA, wf_rl hA, wf_rs hA, Option.map_some, Option.toList_some, Option.toList_none, List.cons_append, List.nil_append, List.length_cons, List.length_nil, Nat.reduceAdd, Nat.reduceLeDiff, Nat.zero_le, u2_e, Nat.reduceEqDiff, false_and, and_false, true_and, and_true, if_false, if_true, i10, i01, q118_0, q118_1, q118_4, q118_7, q118_8, q118_11, q118_14, q118_15, q118_18, q118_19, q118_22, q118_23, q118_24, q118_25, q118_26, q118_29, q118_30z, q118_30o, q118_31, q118_32, q118_35, q118_36, q118_37, q118_38, q118_39, q118_40, q118_41, q118_42, q118_45, q118_46, q118_47z, q118_47o, q118_48, q118_49, q118_50, q118_51, q118_52, q118_53, q118_56, q118_57, q118_58, q118_59, q118_62, q118_63, q118_66, q118_67z, q118_67o, m87 hA, m88 hA]
  rcases hx with (h | ⟨h, h2⟩) | ⟨h, h2, h3⟩
  · simp only [h, if_true]
  · simp only [h, n45 h h2, if_true, if_false]
  · simp only [h, n54 h2, nsv h3, if_true, if_false]
set_option maxHeartbeats 400000 in
set_option maxRecDepth 20000 in
theorem m119n (hA : ∀ i, ix (ad i) = i) {x y : Int32} (hx : (x < 0 ∨ (¬ x < 0 ∧ 5 ≤ x)) ∨ (¬ x < 0 ∧ ¬ 5 ≤ x ∧ (y < 0 ∨ (¬ y < 0 ∧ 2 ≤ y)))) : pz_C dA (d + 1) 119 [.ref (ad 100), .int x, .int y] (pz_wf ad ix (cw dA ad B E π τ D)) Q = (Q (some (.int 0)) (pz_wf ad ix (cw dA ad B E π τ D))) := by
  rw [e119]
  simp only [pz_o_s, wf_gf hA, wf_gu hA, wf_pf hA, wf_il hA, wf_is hA, wf_rl hA, wf_rs hA, Option.map_some, Option.toList_some, Option.toList_none, List.cons_append, List.nil_append, List.length_cons, List.length_nil, Nat.reduceAdd, Nat.reduceLeDiff, Nat.zero_le, u2_e, Nat.reduceEqDiff, false_and, and_false, true_and, and_true, if_false, if_true, i10, i01, q119_0, q119_1, q119_4, q119_7, q119_8, q119_11, q119_14, q119_15, q119_18, q119_19, q119_20, q119_23, q119_24z, q119_24o, q119_25, q119_26, q119_27, q119_28, q119_29, q119_30, q119_33, q119_34, q119_35, q119_36, q119_39, q119_40, q119_43, q119_44, q119_47, q119_48, q119_49, q119_50, q119_51, q119_54, q119_55, q119_56, q119_57, q119_58, q119_61, q119_62, q119_63z, q119_63o, q119_64, q119_65, q119_68, q119_69, q119_70, q119_73, q119_74, q119_75z, q119_75o, m87 hA, m88 hA]
  rcases hx with (h | ⟨h, h2⟩) | ⟨h, h2, h3⟩
  · simp only [h, if_true]
  · simp only [h, n45 h h2, if_true, if_false]
  · simp only [h, n54 h2, nsv h3, if_true, if_false]
def akC (D : Nat → Nat → Int32) (c s : Nat) : Nat → Nat → Int32 := pX (bgn (b_ask D c) 0 (nI c) (nI s) (D 17 c + 1) 0)
def rlC (D : Nat → Nat → Int32) (c s : Nat) : Nat → Nat → Int32 := u2 (b_rel (pX (bgn D 3 (nI c) (nI s) (D 15 c) 0)) c) 19 c (D 0 0)
set_option maxHeartbeats 400000 in
set_option maxRecDepth 20000 in
theorem m118 (hA : ∀ i, ix (ad i) = i) {n : Nat} (hn : n ≤ 24) {c s : Nat} (hcl : c < 5) (hs : s < 2) (hc : D 20 0 = nI n) : pz_C dA (d + 1) 118 [.ref (ad 100), .int (nI c), .int (nI s)] (pz_wf ad ix (cw dA ad B E π τ D)) Q = (if 4 ≤ D 0 0 - D 19 c then Q (some (.int 1)) (pz_wf ad ix (cw dA ad B E π τ (akC D c s))) else Q (some (.int 0)) (pz_wf ad ix (cw dA ad B E π τ D))) := by
  have hx1 : (nI c < 0) = False := by simp only [eq_iff_iff, iff_false]; exact nI_pos (by omega)
  have hx2 : ((4 : Int32) < nI c) = False := by simp only [eq_iff_iff, iff_false]; exact nI_nlt (b := c) (a := 4) (by omega) (by decide)
  have hsv : ∀ (A B : Prop), (if nI s = 0 then A else if nI s = 1 then A else B) = A := by
    intro A B
    rcases (show s = 0 ∨ s = 1 by omega) with rfl | rfl
    · exact if_pos rfl
    · rw [if_neg (by decide), if_pos (by decide)]
  have h2 : bgn (b_ask D c) 0 (nI c) (nI s) (D 17 c + 1) 0 20 0 = nI n := by rw [bgn_k (by decide)]; exact hc
  have hb : u2 (u2 D 17 c (D 17 c + 1)) 18 c 1 = b_ask D c := rfl
  rw [e118]
  simp only [pz_o_s, wf_gf hA, wf_gu hA, wf_pf hA, wf_il hA, wf_is hA, wf_rl hA, wf_rs hA, Option.map_some, Option.toList_some, Option.toList_none, List.cons_append, List.nil_append, List.length_cons, List.length_nil, Nat.reduceAdd, Nat.reduceLeDiff, Nat.zero_le, u2_e, Nat.reduceEqDiff, false_and, and_false, true_and, and_true, if_false, if_true, i10, i01, q118_0, q118_1, q118_4, q118_7, q118_8, q118_11, q118_14, q118_15, q118_18, q118_19, q118_22, q118_23, q118_24, q118_25, q118_26, q118_29, q118_30z, q118_30o, q118_31, q118_32, q118_35, q118_36, q118_37, q118_38, q118_39, q118_40, q118_41, q118_42, q118_45, q118_46, q118_47z, q118_47o, q118_48, q118_49, q118_50, q118_51, q118_52, q118_53, q118_56, q118_57, q118_58, q118_59, q118_62, q118_63, q118_66, q118_67z, q118_67o, gu_X, gf_X0, gf_X1, gf_X2, gf_X3, gf_X4, gf_X5, gf_X6, gf_X7, gf_X8, gf_X9, gf_X10, gf_X11, gf_X12, gf_X13, gf_X14, gf_X15, gf_X16, gf_X17, gf_X18, gf_X19, gf_X20, gf_X21, gf_X22, gf_X23, pf_X0, pf_X1, pf_X20, m87 hA, m88 hA, hx1, hx2, hsv, il_15 hcl, il_16 hcl, il_17 hcl, il_18 hcl, il_19 hcl, is_15 hcl, is_16 hcl, is_17 hcl, is_18 hcl, is_19 hcl, hb, m94 hA, m95 hA hn h2]
  rfl
set_option maxHeartbeats 400000 in
set_option maxRecDepth 20000 in
theorem m119 (hA : ∀ i, ix (ad i) = i) {n : Nat} (hn : n ≤ 24) {c s : Nat} (hcl : c < 5) (hs : s < 2) (hc : D 20 0 = nI n) : pz_C dA (d + 1) 119 [.ref (ad 100), .int (nI c), .int (nI s)] (pz_wf ad ix (cw dA ad B E π τ D)) Q = (if 0 ≤ D 15 c then Q (some (.int 1)) (pz_wf ad ix (cw dA ad B E π τ (rlC D c s))) else Q (some (.int 0)) (pz_wf ad ix (cw dA ad B E π τ D))) := by
  have hx1 : (nI c < 0) = False := by simp only [eq_iff_iff, iff_false]; exact nI_pos (by omega)
  have hx2 : ((4 : Int32) < nI c) = False := by simp only [eq_iff_iff, iff_false]; exact nI_nlt (b := c) (a := 4) (by omega) (by decide)
  have hsv : ∀ (A B : Prop), (if nI s = 0 then A else if nI s = 1 then A else B) = A := by
    intro A B
    rcases (show s = 0 ∨ s = 1 by omega) with rfl | rfl
    · exact if_pos rfl
    · rw [if_neg (by decide), if_pos (by decide)]
  have h2 : bgn D 3 (nI c) (nI s) (D 15 c) 0 20 0 = nI n := by rw [bgn_k (by decide)]; exact hc
  rw [e119]
  simp only [pz_o_s, wf_gf hA, wf_gu hA, wf_pf hA, wf_il hA, wf_is hA, wf_rl hA, wf_rs hA, Option.map_some, Option.toList_some, Option.toList_none, List.cons_append, List.nil_append, List.length_cons, List.length_nil, Nat.reduceAdd, Nat.reduceLeDiff, Nat.zero_le, u2_e, Nat.reduceEqDiff, false_and, and_false, true_and, and_true, if_false, if_true, i10, i01, q119_0, q119_1, q119_4, q119_7, q119_8, q119_11, q119_14, q119_15, q119_18, q119_19, q119_20, q119_23, q119_24z, q119_24o, q119_25, q119_26, q119_27, q119_28, q119_29, q119_30, q119_33, q119_34, q119_35, q119_36, q119_39, q119_40, q119_43, q119_44, q119_47, q119_48, q119_49, q119_50, q119_51, q119_54, q119_55, q119_56, q119_57, q119_58, q119_61, q119_62, q119_63z, q119_63o, q119_64, q119_65, q119_68, q119_69, q119_70, q119_73, q119_74, q119_75z, q119_75o, gu_X, gf_X0, gf_X1, gf_X2, gf_X3, gf_X4, gf_X5, gf_X6, gf_X7, gf_X8, gf_X9, gf_X10, gf_X11, gf_X12, gf_X13, gf_X14, gf_X15, gf_X16, gf_X17, gf_X18, gf_X19, gf_X20, gf_X21, gf_X22, gf_X23, pf_X0, pf_X1, pf_X20, m87 hA, m88 hA, hx1, hx2, hsv, il_15 hcl, il_16 hcl, il_17 hcl, il_18 hcl, il_19 hcl, is_15 hcl, is_16 hcl, is_17 hcl, is_18 hcl, is_19 hcl, m94 hA, m95 hA hn h2, pX_k (show 0 ≠ 20 ∧ 0 ≠ 21 by decide), bgn_k (show 0 ≠ 23 by decide)]
  rfl
set_option maxHeartbeats 400000 in
set_option maxRecDepth 20000 in
theorem m121n (hA : ∀ i, ix (ad i) = i) {x : Int32} (hx : x < 0 ∨ (¬ x < 0 ∧ 2 ≤ x)) : pz_C dA (d + 1) 121 [.ref (ad 100), .int x] (pz_wf ad ix (cw dA ad B E π τ D)) Q = (Q (some (.int 0)) (pz_wf ad ix (cw dA ad B E π τ D))) := by
  rw [e121]
  simp only [pz_o_s, wf_gf hA, wf_gu hA, wf_pf hA, wf_il hA, wf_is hA, wf_rl hA, wf_rs hA, Option.map_some, Option.toList_some, Option.toList_none, List.cons_append, List.nil_append, List.length_cons, List.length_nil, Nat.reduceAdd, Nat.reduceLeDiff, Nat.zero_le, u2_e, Nat.reduceEqDiff, false_and, and_false, true_and, and_true, if_false, if_true, i10, i01, q121_0, q121_1, q121_4, q121_7, q121_8, q121_11, q121_12, q121_13, q121_16, q121_17, q121_20, q121_23, q121_24z, q121_24o, q121_25, q121_26, q121_29, q121_30, q121_31, q121_32, q121_33, q121_36, q121_37, q121_38, q121_41, q121_42, q121_43, q121_46, q121_47, q121_48, q121_49, q121_50, q121_51, q121_52, q121_53, q121_56, q121_57, q121_58, q121_59, q121_60z, q121_60o, m87 hA]
  exact nsv hx
set_option maxHeartbeats 400000 in
set_option maxRecDepth 20000 in
theorem m122n (hA : ∀ i, ix (ad i) = i) {x : Int32} (hx : x < 0 ∨ (¬ x < 0 ∧ 2 ≤ x)) : pz_C dA (d + 1) 122 [.ref (ad 100), .int x] (pz_wf ad ix (cw dA ad B E π τ D)) Q = (Q (some (.int 0)) (pz_wf ad ix (cw dA ad B E π τ D))) := by
  rw [e122]
  simp only [pz_o_s, wf_gf hA, wf_gu hA, wf_pf hA, wf_il hA, wf_is hA, wf_rl hA, wf_rs hA, Option.map_some, Option.toList_some, Option.toList_none, List.cons_append, List.nil_append, List.length_cons, List.length_nil, Nat.reduceAdd, Nat.reduceLeDiff, Nat.zero_le, u2_e, Nat.reduceEqDiff, false_and, and_false, true_and, and_true, if_false, if_true, i10, i01, q122_0, q122_1, q122_4, q122_7, q122_8, q122_11, q122_12, q122_13, q122_14, q122_17, q122_18, q122_21, q122_22, q122_23, q122_24, q122_27, q122_28, q122_31, q122_32, q122_33, q122_34, q122_35, q122_38, q122_39z, q122_39o, q122_40, q122_41, q122_44, q122_45, q122_46, q122_47, q122_48, q122_51, q122_52, q122_53, q122_56, q122_57, q122_58z, q122_58o, m87 hA]
  exact nsv hx
set_option maxHeartbeats 400000 in
set_option maxRecDepth 20000 in
theorem m124n (hA : ∀ i, ix (ad i) = i) {x : Int32} (hx : x < 0 ∨ (¬ x < 0 ∧ 2 ≤ x)) : pz_C dA (d + 1) 124 [.ref (ad 100), .int x] (pz_wf ad ix (cw dA ad B E π τ D)) Q = (Q (some (.int (-1))) (pz_wf ad ix (cw dA ad B E π τ D))) := by
  rw [e124]
  simp only [pz_o_s, wf_gf hA, wf_gu hA, wf_pf hA, wf_il hA, wf_is hA, wf_rl hA, wf_rs hA, Option.map_some, Option.toList_some, Option.toList_none, List.cons_append, List.nil_append, List.length_cons, List.length_nil, Nat.reduceAdd, Nat.reduceLeDiff, Nat.zero_le, u2_e, Nat.reduceEqDiff, false_and, and_false, true_and, and_true, if_false, if_true, i10, i01, q124_0, q124_1, q124_4, q124_7, q124_8, q124_11, q124_12, q124_13, q124_16, q124_17, m87 hA]
  exact nsv hx
set_option maxHeartbeats 400000 in
set_option maxRecDepth 20000 in
theorem m120n (hA : ∀ i, ix (ad i) = i) {x : Int32} (hx : x < 0 ∨ (¬ x < 0 ∧ 2 ≤ x)) : pz_C dA (d + 1) 120 [.ref (ad 100), .int x] (pz_wf ad ix (cw dA ad B E π τ D)) Q = Q (some (.int 0)) (pz_wf ad ix (cw dA ad B E π τ D)) := by
  rw [e120]
  simp only [pz_o_s, wf_gf hA, wf_gu hA, wf_pf hA, wf_il hA, wf_is hA, wf_rl hA, wf_rs hA, Option.map_some, Option.toList_some, Option.toList_none, List.cons_append, List.nil_append, List.length_cons, List.length_nil, Nat.reduceAdd, Nat.reduceLeDiff, Nat.zero_le, u2_e, Nat.reduceEqDiff, false_and, and_false, true_and, and_true, if_false, if_true, i10, i01, q120_0, q120_1, q120_4, m87 hA]
  rw [nsv hx]
  simp only [pz_o_s, wf_gf hA, wf_gu hA, wf_pf hA, wf_il hA, wf_is hA, wf_rl hA, wf_rs hA, Option.map_some, Option.toList_some, Option.toList_none, List.cons_append, List.nil_append, List.length_cons, List.length_nil, Nat.reduceAdd, Nat.reduceLeDiff, Nat.zero_le, u2_e, Nat.reduceEqDiff, false_and, and_false, true_and, and_true, if_false, if_true, i10, i01, q120_45, q120_46z, q120_46o]
set_option maxHeartbeats 400000 in
set_option maxRecDepth 20000 in
theorem m121 (hA : ∀ i, ix (ad i) = i) {s : Nat} (hs : s < 2) : pz_C dA (d + 1) 121 [.ref (ad 100), .int (nI s)] (pz_wf ad ix (cw dA ad B E π τ D)) Q = (if D 2 s = 0 then (if D 1 0 = 0 then Q (some (.int 0)) (pz_wf ad ix (cw dA ad B E π τ D)) else Q (some (.int 1)) (pz_wf ad ix (cw dA ad B E π τ (u2 (u2 (u2 (u2 D 2 s 4) 3 s (D 0 0)) 4 s (D 4 s + 1)) 6 s 0)))) else Q (some (.int 0)) (pz_wf ad ix (cw dA ad B E π τ D))) := by
  have hsv : ∀ (A B : Prop), (if nI s = 0 then A else if nI s = 1 then A else B) = A := by
    intro A B
    rcases (show s = 0 ∨ s = 1 by omega) with rfl | rfl
    · exact if_pos rfl
    · rw [if_neg (by decide), if_pos (by decide)]
  rw [e121]
  simp only [pz_o_s, wf_gf hA, wf_gu hA, wf_pf hA, wf_il hA, wf_is hA, wf_rl hA, wf_rs hA, Option.map_some, Option.toList_some, Option.toList_none, List.cons_append, List.nil_append, List.length_cons, List.length_nil, Nat.reduceAdd, Nat.reduceLeDiff, Nat.zero_le, u2_e, Nat.reduceEqDiff, false_and, and_false, true_and, and_true, if_false, if_true, i10, i01, q121_0, q121_1, q121_4, q121_7, q121_8, q121_11, q121_12, q121_13, q121_16, q121_17, q121_20, q121_23, q121_24z, q121_24o, q121_25, q121_26, q121_29, q121_30, q121_31, q121_32, q121_33, q121_36, q121_37, q121_38, q121_41, q121_42, q121_43, q121_46, q121_47, q121_48, q121_49, q121_50, q121_51, q121_52, q121_53, q121_56, q121_57, q121_58, q121_59, q121_60z, q121_60o, gu_X, gf_X0, gf_X1, gf_X2, gf_X3, gf_X4, gf_X5, gf_X6, gf_X7, gf_X8, gf_X9, gf_X10, gf_X11, gf_X12, gf_X13, gf_X14, gf_X15, gf_X16, gf_X17, gf_X18, gf_X19, gf_X20, gf_X21, gf_X22, gf_X23, pf_X0, pf_X1, pf_X20, m87 hA, m88 hA, hsv, il_2 hs, il_3 hs, il_4 hs, il_5 hs, il_6 hs, is_2 hs, is_3 hs, is_4 hs, is_5 hs, is_6 hs]
set_option maxHeartbeats 400000 in
set_option maxRecDepth 20000 in
theorem m122 (hA : ∀ i, ix (ad i) = i) {s : Nat} (hs : s < 2) : pz_C dA (d + 1) 122 [.ref (ad 100), .int (nI s)] (pz_wf ad ix (cw dA ad B E π τ D)) Q = (if D 2 (1 - s) = 0 then (if D 2 s = 1 ∨ D 2 s = 2 then Q (some (.int 1)) (pz_wf ad ix (cw dA ad B E π τ (u2 (u2 D 2 s 3) 3 s (D 0 0)))) else Q (some (.int 0)) (pz_wf ad ix (cw dA ad B E π τ D))) else Q (some (.int 0)) (pz_wf ad ix (cw dA ad B E π τ D))) := by
  have hsv : ∀ (A B : Prop), (if nI s = 0 then A else if nI s = 1 then A else B) = A := by
    intro A B
    rcases (show s = 0 ∨ s = 1 by omega) with rfl | rfl
    · exact if_pos rfl
    · rw [if_neg (by decide), if_pos (by decide)]
  rw [e122]
  simp only [pz_o_s, wf_gf hA, wf_gu hA, wf_pf hA, wf_il hA, wf_is hA, wf_rl hA, wf_rs hA, Option.map_some, Option.toList_some, Option.toList_none, List.cons_append, List.nil_append, List.length_cons, List.length_nil, Nat.reduceAdd, Nat.reduceLeDiff, Nat.zero_le, u2_e, Nat.reduceEqDiff, false_and, and_false, true_and, and_true, if_false, if_true, i10, i01, q122_0, q122_1, q122_4, q122_7, q122_8, q122_11, q122_12, q122_13, q122_14, q122_17, q122_18, q122_21, q122_22, q122_23, q122_24, q122_27, q122_28, q122_31, q122_32, q122_33, q122_34, q122_35, q122_38, q122_39z, q122_39o, q122_40, q122_41, q122_44, q122_45, q122_46, q122_47, q122_48, q122_51, q122_52, q122_53, q122_56, q122_57, q122_58z, q122_58o, gu_X, gf_X0, gf_X1, gf_X2, gf_X3, gf_X4, gf_X5, gf_X6, gf_X7, gf_X8, gf_X9, gf_X10, gf_X11, gf_X12, gf_X13, gf_X14, gf_X15, gf_X16, gf_X17, gf_X18, gf_X19, gf_X20, gf_X21, gf_X22, gf_X23, pf_X0, pf_X1, pf_X20, m87 hA, m88 hA, hsv, il_2 hs, il_3 hs, il_4 hs, il_5 hs, il_6 hs, is_2 hs, is_3 hs, is_4 hs, is_5 hs, is_6 hs, il_2 (show 1 - s < 2 by omega), one_sub hs]
  by_cases h1 : D 2 (1 - s) = 0 <;> by_cases h2 : D 2 s = 1 <;> by_cases h3 : D 2 s = 2 <;> simp [h1, h2, h3]
set_option maxHeartbeats 400000 in
set_option maxRecDepth 20000 in
theorem m123_0 (hA : ∀ i, ix (ad i) = i) : pz_C dA d 123 [.ref (ad 100), .int 0] (pz_wf ad ix (cw dA ad B E π τ D)) Q = (if D 1 0 = 0 then Q (some (.int 0)) (pz_wf ad ix (cw dA ad B E π τ D)) else Q (some (.int 1)) (pz_wf ad ix (cw dA ad B E π τ (u2 D 1 0 0)))) := by
  rw [e123]
  simp only [pz_o_s, wf_gf hA, wf_gu hA, wf_pf hA, wf_il hA, wf_is hA, wf_rl hA, wf_rs hA, Option.map_some, Option.toList_some, Option.toList_none, List.cons_append, List.nil_append, List.length_cons, List.length_nil, Nat.reduceAdd, Nat.reduceLeDiff, Nat.zero_le, u2_e, Nat.reduceEqDiff, false_and, and_false, true_and, and_true, if_false, if_true, i10, i01, q123_0, q123_1, q123_2, q123_5, q123_8, q123_9z, q123_9o, q123_10, q123_11, q123_12z, q123_12o, q123_15, q123_16z, q123_16o, gu_X, gf_X0, gf_X1, gf_X2, gf_X3, gf_X4, gf_X5, gf_X6, gf_X7, gf_X8, gf_X9, gf_X10, gf_X11, gf_X12, gf_X13, gf_X14, gf_X15, gf_X16, gf_X17, gf_X18, gf_X19, gf_X20, gf_X21, gf_X22, gf_X23, pf_X0, pf_X1, pf_X20]
  have e : (0 = D 1 0) = (D 1 0 = 0) := by simp only [eq_iff_iff]; exact ⟨Eq.symm, Eq.symm⟩
  simp only [e]
set_option maxHeartbeats 400000 in
set_option maxRecDepth 20000 in
theorem m123_1 (hA : ∀ i, ix (ad i) = i) : pz_C dA d 123 [.ref (ad 100), .int 1] (pz_wf ad ix (cw dA ad B E π τ D)) Q = (if D 1 0 = 1 then Q (some (.int 0)) (pz_wf ad ix (cw dA ad B E π τ D)) else Q (some (.int 1)) (pz_wf ad ix (cw dA ad B E π τ (u2 D 1 0 1)))) := by
  rw [e123]
  simp only [pz_o_s, wf_gf hA, wf_gu hA, wf_pf hA, wf_il hA, wf_is hA, wf_rl hA, wf_rs hA, Option.map_some, Option.toList_some, Option.toList_none, List.cons_append, List.nil_append, List.length_cons, List.length_nil, Nat.reduceAdd, Nat.reduceLeDiff, Nat.zero_le, u2_e, Nat.reduceEqDiff, false_and, and_false, true_and, and_true, if_false, if_true, i10, i01, q123_0, q123_1, q123_2, q123_5, q123_8, q123_9z, q123_9o, q123_10, q123_11, q123_12z, q123_12o, q123_15, q123_16z, q123_16o, gu_X, gf_X0, gf_X1, gf_X2, gf_X3, gf_X4, gf_X5, gf_X6, gf_X7, gf_X8, gf_X9, gf_X10, gf_X11, gf_X12, gf_X13, gf_X14, gf_X15, gf_X16, gf_X17, gf_X18, gf_X19, gf_X20, gf_X21, gf_X22, gf_X23, pf_X0, pf_X1, pf_X20]
  have e : (1 = D 1 0) = (D 1 0 = 1) := by simp only [eq_iff_iff]; exact ⟨Eq.symm, Eq.symm⟩
  simp only [e]
set_option maxHeartbeats 400000 in
set_option maxRecDepth 20000 in
theorem m124 (hA : ∀ i, ix (ad i) = i) {s : Nat} (hs : s < 2) : pz_C dA (d + 1) 124 [.ref (ad 100), .int (nI s)] (pz_wf ad ix (cw dA ad B E π τ D)) Q = (Q (some (.int (D 2 s))) (pz_wf ad ix (cw dA ad B E π τ D))) := by
  have hsv : ∀ (A B : Prop), (if nI s = 0 then A else if nI s = 1 then A else B) = A := by
    intro A B
    rcases (show s = 0 ∨ s = 1 by omega) with rfl | rfl
    · exact if_pos rfl
    · rw [if_neg (by decide), if_pos (by decide)]
  rw [e124]
  simp only [pz_o_s, wf_gf hA, wf_gu hA, wf_pf hA, wf_il hA, wf_is hA, wf_rl hA, wf_rs hA, Option.map_some, Option.toList_some, Option.toList_none, List.cons_append, List.nil_append, List.length_cons, List.length_nil, Nat.reduceAdd, Nat.reduceLeDiff, Nat.zero_le, u2_e, Nat.reduceEqDiff, false_and, and_false, true_and, and_true, if_false, if_true, i10, i01, q124_0, q124_1, q124_4, q124_7, q124_8, q124_11, q124_12, q124_13, q124_16, q124_17, gu_X, gf_X0, gf_X1, gf_X2, gf_X3, gf_X4, gf_X5, gf_X6, gf_X7, gf_X8, gf_X9, gf_X10, gf_X11, gf_X12, gf_X13, gf_X14, gf_X15, gf_X16, gf_X17, gf_X18, gf_X19, gf_X20, gf_X21, gf_X22, gf_X23, pf_X0, pf_X1, pf_X20, m87 hA, m88 hA, hsv, il_2 hs, il_3 hs, il_4 hs, il_5 hs, il_6 hs, is_2 hs, is_3 hs, is_4 hs, is_5 hs, is_6 hs]
set_option maxHeartbeats 400000 in
set_option maxRecDepth 20000 in
theorem m127 (hA : ∀ i, ix (ad i) = i) : pz_C dA d 127 [.ref (ad 100)] (pz_wf ad ix (cw dA ad B E π τ D)) Q = (Q (some (.int (D 20 0))) (pz_wf ad ix (cw dA ad B E π τ D))) := by
  rw [e127]
  simp only [pz_o_s, wf_gf hA, wf_gu hA, wf_pf hA, wf_il hA, wf_is hA, wf_rl hA, wf_rs hA, Option.map_some, Option.toList_some, Option.toList_none, List.cons_append, List.nil_append, List.length_cons, List.length_nil, Nat.reduceAdd, Nat.reduceLeDiff, Nat.zero_le, u2_e, Nat.reduceEqDiff, false_and, and_false, true_and, and_true, if_false, if_true, i10, i01, q127_0, q127_1, q127_4, gu_X, gf_X0, gf_X1, gf_X2, gf_X3, gf_X4, gf_X5, gf_X6, gf_X7, gf_X8, gf_X9, gf_X10, gf_X11, gf_X12, gf_X13, gf_X14, gf_X15, gf_X16, gf_X17, gf_X18, gf_X19, gf_X20, gf_X21, gf_X22, gf_X23, pf_X0, pf_X1, pf_X20]
set_option maxHeartbeats 400000 in
set_option maxRecDepth 20000 in
theorem i120a (hA : ∀ i, ix (ad i) = i) {x : Int32} {m n : Nat} (hm : m < n) (hn : n ≤ 24) (hc : D 20 0 = nI n) : pz_R dA (d + 1) 120 61 [.ref (ad 100), .int x, .int (nI m)] [] (pz_wf ad ix (cw dA ad B E π τ D)) Q = pz_R dA (d + 1) 120 61 [.ref (ad 100), .int x, .int (lvI m)] [] (pz_wf ad ix (cw dA ad B E π τ (if c_btw D m = true then oX D ((D 20 0).toNatClampNeg - 1) m else D))) Q := by
  have hx1 : (nI m < 0) = False := by simp only [eq_iff_iff, iff_false]; exact nI_pos (by omega)
  have h9 : (D 20 0).toNatClampNeg = n := by rw [hc, nI_clamp (by omega)]
  have hc1 : D 20 0 = nI (n - 1 + 1) := by rw [hc]; congr 1; omega
  rw [q120_61]
  simp only [pz_o_s, wf_gf hA, wf_gu hA, wf_pf hA, wf_il hA, wf_is hA, wf_rl hA, wf_rs hA, Option.map_some, Option.toList_some, Option.toList_none, List.cons_append, List.nil_append, List.length_cons, List.length_nil, Nat.reduceAdd, Nat.reduceLeDiff, Nat.zero_le, u2_e, Nat.reduceEqDiff, false_and, and_false, true_and, and_true, if_false, if_true, i10, i01, q120_62, q120_65, q120_66, q120_69, q120_71, q120_72, q120_73, q120_74, q120_75, q120_78, q120_79, q120_80, q120_83, q120_86, gu_X, gf_X0, gf_X1, gf_X2, gf_X3, gf_X4, gf_X5, gf_X6, gf_X7, gf_X8, gf_X9, gf_X10, gf_X11, gf_X12, gf_X13, gf_X14, gf_X15, gf_X16, gf_X17, gf_X18, gf_X19, gf_X20, gf_X21, gf_X22, gf_X23, pf_X0, pf_X1, pf_X20, hx1, tw_mul, il_21 (show 12 * m < 288 by omega), lvI_m, m96 hA (k := m) (n := n - 1) (by omega) (by omega) hc1, h9]
  by_cases a1 : c_btw D m = true
  · have a2 := a1
    unfold c_btw at a2
    simp only [Bool.not_eq_true', decide_eq_false_iff_not] at a2
    simp only [a1, a2, if_true, if_false]
  · have a2 := a1
    unfold c_btw at a2
    simp only [Bool.not_eq_true', decide_eq_false_iff_not, Decidable.not_not] at a2
    simp only [a1, a2, if_true, if_false, Bool.false_eq_true]
set_option maxHeartbeats 400000 in
set_option maxRecDepth 20000 in
theorem x120a (hA : ∀ i, ix (ad i) = i) {x : Int32} : pz_R dA d 120 61 [.ref (ad 100), .int x, .int (lvI 0)] [] (pz_wf ad ix (cw dA ad B E π τ D)) Q = pz_R dA d 120 89 [.ref (ad 100), .int x, .int (-1)] [] (pz_wf ad ix (cw dA ad B E π τ D)) Q := by
  have h0 : lvI 0 = -1 := rfl
  rw [h0, q120_61]
  simp only [pz_o_s, wf_gf hA, wf_gu hA, wf_pf hA, wf_il hA, wf_is hA, wf_rl hA, wf_rs hA, Option.map_some, Option.toList_some, Option.toList_none, List.cons_append, List.nil_append, List.length_cons, List.length_nil, Nat.reduceAdd, Nat.reduceLeDiff, Nat.zero_le, u2_e, Nat.reduceEqDiff, false_and, and_false, true_and, and_true, if_false, if_true, i10, i01, q120_62, q120_65, q120_66, q120_69, q120_71, q120_72, q120_73, q120_74, q120_75, q120_78, q120_79, q120_80, q120_83, q120_86, show ((-1 : Int32) < 0) = True by decide]
theorem l120a (hA : ∀ i, ix (ad i) = i) {x : Int32} : ∀ (m n : Nat) (D : Nat → Nat → Int32), m ≤ n → n ≤ 24 → D 20 0 = nI n → pz_R dA (d + 1) 120 61 [.ref (ad 100), .int x, .int (lvI m)] [] (pz_wf ad ix (cw dA ad B E π τ D)) Q = pz_R dA (d + 1) 120 89 [.ref (ad 100), .int x, .int (-1)] [] (pz_wf ad ix (cw dA ad B E π τ (flX c_btw m D))) Q := by
  intro m
  induction m with
  | zero =>
    intro n D h1 h2 h3
    exact x120a hA
  | succ m ih =>
    intro n D h1 h2 h3
    rw [lvI_s, i120a hA (by omega) h2 h3]
    have h9 : (D 20 0).toNatClampNeg = n := by rw [h3, nI_clamp (by omega)]
    by_cases a1 : c_btw D m = true
    · rw [if_pos a1, ih (n - 1) _ (by omega) (by omega) (by rw [oX_20, h9])]
      simp only [flX, a1, if_true]
    · rw [if_neg a1, ih n _ (by omega) h2 h3]
      simp only [flX, a1, if_false, Bool.false_eq_true]
set_option maxHeartbeats 400000 in
set_option maxRecDepth 20000 in
theorem m120 (hA : ∀ i, ix (ad i) = i) {n : Nat} (hn : n ≤ 24) {s : Nat} (hs : s < 2) (hc : D 20 0 = nI n) : pz_C dA (d + 1) 120 [.ref (ad 100), .int (nI s)] (pz_wf ad ix (cw dA ad B E π τ D)) Q = (if D 2 0 = 0 ∨ D 2 0 = 4 ∨ D 2 1 = 0 ∨ D 2 1 = 4 then Q (some (.int 0)) (pz_wf ad ix (cw dA ad B E π τ D)) else Q (some (.int 1)) (pz_wf ad ix (cw dA ad B E π τ (flX c_btw n (u2 D 2 s 0))))) := by
  have hsv : ∀ (A B : Prop), (if nI s = 0 then A else if nI s = 1 then A else B) = A := by
    intro A B
    rcases (show s = 0 ∨ s = 1 by omega) with rfl | rfl
    · exact if_pos rfl
    · rw [if_neg (by decide), if_pos (by decide)]
  have hc2 : u2 D 2 s 0 20 0 = nI n := hc
  rw [e120]
  simp only [pz_o_s, wf_gf hA, wf_gu hA, wf_pf hA, wf_il hA, wf_is hA, wf_rl hA, wf_rs hA, Option.map_some, Option.toList_some, Option.toList_none, List.cons_append, List.nil_append, List.length_cons, List.length_nil, Nat.reduceAdd, Nat.reduceLeDiff, Nat.zero_le, u2_e, Nat.reduceEqDiff, false_and, and_false, true_and, and_true, if_false, if_true, i10, i01, q120_0, q120_1, q120_4, q120_7, q120_8, q120_11, q120_12, q120_13, q120_16, q120_17, q120_20, q120_21, q120_22, q120_25, q120_26, q120_29, q120_30, q120_31, q120_32, q120_35, q120_36, q120_39, q120_40, q120_41, q120_42, q120_45, q120_46z, q120_46o, q120_47, q120_48, q120_51, q120_52, q120_53, q120_54, q120_55, q120_58, q120_59, q120_60, gu_X, gf_X0, gf_X1, gf_X2, gf_X3, gf_X4, gf_X5, gf_X6, gf_X7, gf_X8, gf_X9, gf_X10, gf_X11, gf_X12, gf_X13, gf_X14, gf_X15, gf_X16, gf_X17, gf_X18, gf_X19, gf_X20, gf_X21, gf_X22, gf_X23, pf_X0, pf_X1, pf_X20, il_2 hs, il_3 hs, il_4 hs, il_5 hs, il_6 hs, is_2 hs, is_3 hs, is_4 hs, is_5 hs, is_6 hs, il_2_0, il_2_1, m87 hA, hsv, hc, lvI_b, l120a hA n n _ (Nat.le_refl n) hn hc2, q120_89, q120_90z, q120_90o]
  by_cases h1 : D 2 0 = 0 <;> by_cases h2 : D 2 0 = 4 <;> by_cases h3 : D 2 1 = 0 <;> by_cases h4 : D 2 1 = 4 <;> simp only [h1, h2, h3, h4, if_true, if_false, or_true, true_or, or_false, false_or, or_self, li_4_0, li_0_4, ite_self]
end XG
