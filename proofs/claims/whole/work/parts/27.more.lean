/-! more calls -/
section CQ
variable {dA ad ix : Nat → Nat} {B E D : Nat → Nat → Int32} {π : Nat → Nat} {τ d : Nat} {Q : Option Value → pz_F → Prop}

def b_rel (B : Nat → Nat → Int32) (c : Nat) : Nat → Nat → Int32 := u2 (u2 (u2 B 15 c (-1)) 16 c 0) 18 c 0
set_option maxHeartbeats 400000 in
set_option maxRecDepth 20000 in
theorem m3 (hA : ∀ i, ix (ad i) = i) {n : Nat} (hn : n ≤ 24) (hp : ∀ j, π j < 25) {c s : Nat} (hcl : c < 5) (hs : s < 2) (hc : B 20 0 = nI n) : pz_C dA (d + 2) 3 [.ref (ad 0), .int (nI c), .int (nI s)] (pz_wf ad ix (cw dA ad B E π τ D)) Q = if B 15 c = -1 then Q (some (.int 0)) (pz_wf ad ix (cw dA ad B E π τ D)) else Q (some (.int 1)) (pz_wf ad ix (cw dA ad (b_rel (pB B) c) (u2 (pE B E π [(0, 3), (1, nI c), (2, nI s), (3, B 0 0), (5, B 15 c)]) 25 c (B 0 0)) π τ D)) := by
  have hx1 : (nI c < 0) = False := by simp only [eq_iff_iff, iff_false]; exact nI_pos (by omega)
  have hx2 : ((5 : Int32) ≤ nI c) = False := lt5 hcl
  have hx3 : (nI s < 0) = False := by simp only [eq_iff_iff, iff_false]; exact nI_pos (by omega)
  have hx4 : ((2 : Int32) ≤ nI s) = False := lt2 hs
  rw [e3]
  rcases Nat.lt_or_ge n 24 with h | h
  · simp only [pz_o_s, wf_gf hA, wf_gu hA, wf_pf hA, wf_il hA, wf_is hA, wf_rl hA, wf_rs hA, Option.map_some, Option.toList_some, Option.toList_none, List.cons_append, List.nil_append, List.length_cons, List.length_nil, Nat.reduceAdd, Nat.reduceLeDiff, Nat.zero_le, u2_e, Nat.reduceEqDiff, false_and, and_false, true_and, and_true, if_false, if_true, i10, i01, q3_0, q3_1, q3_4, q3_7, q3_8, q3_11, q3_14, q3_15, q3_18, q3_19, q3_20, q3_23, q3_24, q3_27, q3_28z, q3_28o, q3_29, q3_30, q3_33, q3_34, q3_35, q3_35n, q3_36, q3_37, q3_40, q3_41, q3_42, q3_43, q3_44, q3_47, q3_50, q3_50n, q3_52, q3_52n, q3_54, q3_54n, q3_57, q3_57n, q3_59, q3_59n, q3_60, q3_63, q3_66, q3_66n, q3_67, q3_70, q3_70n, q3_71, q3_72z, q3_72o, q3_75, q3_75n, q3_76, q3_77, q3_80, q3_83, q3_84z, q3_84o, gu_P, gf_P0, gf_P1, gf_P2, gf_P3, gf_P4, pf_P0, pf_P1, gu_C hcl, gf_C0 hcl, gf_C1 hcl, gf_C2 hcl, gf_C3 hcl, gf_C4 hcl, pf_C0 hcl, pf_C1 hcl, pf_C2 hcl, pf_C3 hcl, pf_C4 hcl, gu_L, m15 hA, m16 hA, hx1, hx2, hx3, hx4, rl_2 hcl, m66 hA hcl, gu_M (hp n), gf_M0 (hp n), gf_M1 (hp n), gf_M2 (hp n), gf_M3 (hp n), gf_M4 (hp n), gf_M5 (hp n), gf_M6 (hp n), gf_M7 (hp n), gf_M8 (hp n), gf_M9 (hp n), gf_M10 (hp n), gf_M11 (hp n), gf_M12 (hp n), gf_M13 (hp n), gf_M14 (hp n), pf_M0 (hp n), pf_M1 (hp n), pf_M2 (hp n), pf_M3 (hp n), pf_M4 (hp n), pf_M5 (hp n), pf_M6 (hp n), pf_M7 (hp n), pf_M8 (hp n), pf_M9 (hp n), pf_M10 (hp n), pf_M11 (hp n), pf_M12 (hp n), pf_M13 (hp n), pf_M14 (hp n), m74 hA h hc (hp n)]
    rw [pB_lt h hc, pE_lt h hc]
    rfl
  · have h9 : n = 24 := by omega
    subst h9
    simp only [pz_o_s, wf_gf hA, wf_gu hA, wf_pf hA, wf_il hA, wf_is hA, wf_rl hA, wf_rs hA, Option.map_some, Option.toList_some, Option.toList_none, List.cons_append, List.nil_append, List.length_cons, List.length_nil, Nat.reduceAdd, Nat.reduceLeDiff, Nat.zero_le, u2_e, Nat.reduceEqDiff, false_and, and_false, true_and, and_true, if_false, if_true, i10, i01, q3_0, q3_1, q3_4, q3_7, q3_8, q3_11, q3_14, q3_15, q3_18, q3_19, q3_20, q3_23, q3_24, q3_27, q3_28z, q3_28o, q3_29, q3_30, q3_33, q3_34, q3_35, q3_35n, q3_36, q3_37, q3_40, q3_41, q3_42, q3_43, q3_44, q3_47, q3_50, q3_50n, q3_52, q3_52n, q3_54, q3_54n, q3_57, q3_57n, q3_59, q3_59n, q3_60, q3_63, q3_66, q3_66n, q3_67, q3_70, q3_70n, q3_71, q3_72z, q3_72o, q3_75, q3_75n, q3_76, q3_77, q3_80, q3_83, q3_84z, q3_84o, gu_P, gf_P0, gf_P1, gf_P2, gf_P3, gf_P4, pf_P0, pf_P1, gu_C hcl, gf_C0 hcl, gf_C1 hcl, gf_C2 hcl, gf_C3 hcl, gf_C4 hcl, pf_C0 hcl, pf_C1 hcl, pf_C2 hcl, pf_C3 hcl, pf_C4 hcl, gu_L, m15 hA, m16 hA, hx1, hx2, hx3, hx4, rl_2 hcl, m66 hA hcl, m74f hA hc, pB_24 hc, pE_24 hc]
    rfl
set_option maxHeartbeats 400000 in
set_option maxRecDepth 20000 in
theorem m6n (hA : ∀ i, ix (ad i) = i) {x : Int32} (hx : x < 0 ∨ (¬ x < 0 ∧ 2 ≤ x)) : pz_C dA (d + 1) 6 [.ref (ad 0), .int x] (pz_wf ad ix (cw dA ad B E π τ D)) Q = (Q (some (.int 0)) (pz_wf ad ix (cw dA ad B E π τ D))) := by
  rw [e6]
  simp only [pz_o_s, wf_gf hA, wf_gu hA, wf_pf hA, wf_il hA, wf_is hA, wf_rl hA, wf_rs hA, Option.map_some, Option.toList_some, Option.toList_none, List.cons_append, List.nil_append, List.length_cons, List.length_nil, Nat.reduceAdd, Nat.reduceLeDiff, Nat.zero_le, u2_e, Nat.reduceEqDiff, false_and, and_false, true_and, and_true, if_false, if_true, i10, i01, q6_0, q6_1, q6_4, q6_7, q6_8, q6_11, q6_12, q6_13, q6_16, q6_19, q6_20, q6_23, q6_24, q6_25, q6_28, q6_31, q6_32z, q6_32o, q6_33, q6_34, q6_37, q6_38, q6_39, q6_40, q6_43, q6_44, q6_47, q6_50, q6_51z, q6_51o, m15 hA]
  rcases hx with h | ⟨h, h2⟩
  · simp only [h, if_true]
  · simp only [h, h2, if_true, if_false]
set_option maxHeartbeats 400000 in
set_option maxRecDepth 20000 in
theorem m7n (hA : ∀ i, ix (ad i) = i) {x : Int32} (hx : x < 0 ∨ (¬ x < 0 ∧ 2 ≤ x)) : pz_C dA (d + 1) 7 [.ref (ad 0), .int x] (pz_wf ad ix (cw dA ad B E π τ D)) Q = (Q (some (.int 0)) (pz_wf ad ix (cw dA ad B E π τ D))) := by
  rw [e7]
  simp only [pz_o_s, wf_gf hA, wf_gu hA, wf_pf hA, wf_il hA, wf_is hA, wf_rl hA, wf_rs hA, Option.map_some, Option.toList_some, Option.toList_none, List.cons_append, List.nil_append, List.length_cons, List.length_nil, Nat.reduceAdd, Nat.reduceLeDiff, Nat.zero_le, u2_e, Nat.reduceEqDiff, false_and, and_false, true_and, and_true, if_false, if_true, i10, i01, q7_0, q7_1, q7_4, q7_7, q7_8, q7_11, q7_12, q7_13, q7_16, q7_19, q7_20, q7_23, q7_26, q7_27z, q7_27o, q7_28, q7_29, q7_32, q7_33, q7_34, q7_35, q7_38, q7_41, q7_42z, q7_42o, m15 hA]
  rcases hx with h | ⟨h, h2⟩
  · simp only [h, if_true]
  · simp only [h, h2, if_true, if_false]
set_option maxHeartbeats 400000 in
set_option maxRecDepth 20000 in
theorem m8n (hA : ∀ i, ix (ad i) = i) {x : Int32} (hx : x < 0 ∨ (¬ x < 0 ∧ 2 ≤ x)) : pz_C dA (d + 1) 8 [.ref (ad 0), .int x] (pz_wf ad ix (cw dA ad B E π τ D)) Q = (Q (some (.int 0)) (pz_wf ad ix (cw dA ad B E π τ D))) := by
  rw [e8]
  simp only [pz_o_s, wf_gf hA, wf_gu hA, wf_pf hA, wf_il hA, wf_is hA, wf_rl hA, wf_rs hA, Option.map_some, Option.toList_some, Option.toList_none, List.cons_append, List.nil_append, List.length_cons, List.length_nil, Nat.reduceAdd, Nat.reduceLeDiff, Nat.zero_le, u2_e, Nat.reduceEqDiff, false_and, and_false, true_and, and_true, if_false, if_true, i10, i01, q8_0, q8_1, q8_4, q8_7, q8_8, q8_9, q8_12, q8_13, q8_14, q8_17, q8_20, q8_23, q8_24z, q8_24o, q8_25, q8_26, q8_29, q8_30, q8_31, q8_31n, q8_32, q8_32n, q8_33, q8_36, q8_37, q8_40, q8_40n, q8_41, q8_44, q8_45, q8_48, q8_49z, q8_49o, q8_50, q8_50n, q8_51, q8_52, q8_55, q8_55n, q8_56, q8_57, q8_60, q8_63, q8_64z, q8_64o, m15 hA]
  rcases hx with h | ⟨h, h2⟩
  · simp only [h, if_true]
  · simp only [h, h2, if_true, if_false]
set_option maxHeartbeats 400000 in
set_option maxRecDepth 20000 in
theorem m10n (hA : ∀ i, ix (ad i) = i) {x : Int32} (hx : x < 0 ∨ (¬ x < 0 ∧ 2 ≤ x)) : pz_C dA (d + 1) 10 [.ref (ad 0), .int x] (pz_wf ad ix (cw dA ad B E π τ D)) Q = (Q (some (.int (-1))) (pz_wf ad ix (cw dA ad B E π τ D))) := by
  rw [e10]
  simp only [pz_o_s, wf_gf hA, wf_gu hA, wf_pf hA, wf_il hA, wf_is hA, wf_rl hA, wf_rs hA, Option.map_some, Option.toList_some, Option.toList_none, List.cons_append, List.nil_append, List.length_cons, List.length_nil, Nat.reduceAdd, Nat.reduceLeDiff, Nat.zero_le, u2_e, Nat.reduceEqDiff, false_and, and_false, true_and, and_true, if_false, if_true, i10, i01, q10_0, q10_1, q10_4, q10_7, q10_8, q10_11, q10_12, q10_13, q10_16, q10_19, q10_20, m15 hA]
  rcases hx with h | ⟨h, h2⟩
  · simp only [h, if_true]
  · simp only [h, h2, if_true, if_false]
theorem m17_0 {dA ad ix : Nat → Nat} {B E D : Nat → Nat → Int32} {π : Nat → Nat} {τ d : Nat} {Q : Option Value → pz_F → Prop} (hA : ∀ i, ix (ad i) = i) : pz_C dA d 17 [.ref (ad 10)] (pz_wf ad ix (cw dA ad B E π τ D)) Q = if B 2 0 = 0 then Q (some (.int 1)) (pz_wf ad ix (cw dA ad B E π τ D)) else if B 2 0 = 4 then Q (some (.int 1)) (pz_wf ad ix (cw dA ad B E π τ D)) else Q (some (.int 0)) (pz_wf ad ix (cw dA ad B E π τ D)) := m17 hA (s := 0) (by decide)
theorem m17_1 {dA ad ix : Nat → Nat} {B E D : Nat → Nat → Int32} {π : Nat → Nat} {τ d : Nat} {Q : Option Value → pz_F → Prop} (hA : ∀ i, ix (ad i) = i) : pz_C dA d 17 [.ref (ad 11)] (pz_wf ad ix (cw dA ad B E π τ D)) Q = if B 2 1 = 0 then Q (some (.int 1)) (pz_wf ad ix (cw dA ad B E π τ D)) else if B 2 1 = 4 then Q (some (.int 1)) (pz_wf ad ix (cw dA ad B E π τ D)) else Q (some (.int 0)) (pz_wf ad ix (cw dA ad B E π τ D)) := m17 hA (s := 1) (by decide)
def spM (π : Nat → Nat) (n : Nat) (E : Nat → Nat → Int32) : Nat → Nat → Int32 := mrk π (fun E m => bi (E m 0 = 4 ∨ E m 0 = 5 ∨ E m 0 = 6)) n 0 E
def spR (π : Nat → Nat) (n : Nat) (E : Nat → Nat → Int32) : (Nat → Nat) × Nat := rmv (spM π n E) n 0 0 π
set_option maxHeartbeats 400000 in
set_option maxRecDepth 20000 in
theorem m6 (hA : ∀ i, ix (ad i) = i) {n : Nat} (hn : n ≤ 24) (hp : ∀ j, π j < 25) {s : Nat} (hs : s < 2) (hc : B 20 0 = nI n) : pz_C dA (d + 3) 6 [.ref (ad 0), .int (nI s)] (pz_wf ad ix (cw dA ad B E π τ D)) Q = (if B 2 0 = 0 ∨ B 2 0 = 4 ∨ B 2 1 = 0 ∨ B 2 1 = 4 then Q (some (.int 0)) (pz_wf ad ix (cw dA ad B E π τ D)) else Q (some (.int 1)) (pz_wf ad ix (cw dA ad (u2 (u2 B 2 s 0) 20 0 (nI (spR π n E).2)) (spM π n E) (spR π n E).1 τ D))) := by
  have hx3 : (nI s < 0) = False := by simp only [eq_iff_iff, iff_false]; exact nI_pos (by omega)
  have hx4 : ((2 : Int32) ≤ nI s) = False := lt2 hs
  have hc2 : u2 B 2 s 0 20 0 = nI n := hc
  rw [e6]
  simp only [pz_o_s, wf_gf hA, wf_gu hA, wf_pf hA, wf_il hA, wf_is hA, wf_rl hA, wf_rs hA, Option.map_some, Option.toList_some, Option.toList_none, List.cons_append, List.nil_append, List.length_cons, List.length_nil, Nat.reduceAdd, Nat.reduceLeDiff, Nat.zero_le, u2_e, Nat.reduceEqDiff, false_and, and_false, true_and, and_true, if_false, if_true, i10, i01, q6_0, q6_1, q6_4, q6_7, q6_8, q6_11, q6_12, q6_13, q6_16, q6_19, q6_20, q6_23, q6_24, q6_25, q6_28, q6_31, q6_32z, q6_32o, q6_33, q6_34, q6_37, q6_38, q6_39, q6_40, q6_43, q6_44, q6_47, q6_50, q6_51z, q6_51o, gu_P, gf_P0, gf_P1, gf_P2, gf_P3, gf_P4, pf_P0, pf_P1, m15 hA, hx3, hx4, gu_S hs, gf_S0 hs, gf_S1 hs, gf_S2 hs, gf_S3 hs, gf_S4 hs, gf_S5 hs, gf_S6 hs, pf_S2 hs, pf_S3 hs, pf_S4 hs, pf_S5 hs, pf_S6 hs, gu_L, rl_1 hs, rl_10, rl_11, m17_0 hA, m17_1 hA, m77 hA hn hc2 hp]
  by_cases h1 : B 2 0 = 0 <;> by_cases h2 : B 2 0 = 4 <;> by_cases h3 : B 2 1 = 0 <;> by_cases h4 : B 2 1 = 4 <;> simp only [h1, h2, h3, h4, if_true, if_false, or_true, true_or, or_false, false_or, or_self, spR, spM, li_4_0, li_0_4, ite_self]
set_option maxHeartbeats 400000 in
set_option maxRecDepth 20000 in
theorem m7 (hA : ∀ i, ix (ad i) = i) {s : Nat} (hs : s < 2) : pz_C dA (d + 1) 7 [.ref (ad 0), .int (nI s)] (pz_wf ad ix (cw dA ad B E π τ D)) Q = (if B 2 s = 0 then (if B 1 0 = 0 then Q (some (.int 0)) (pz_wf ad ix (cw dA ad B E π τ D)) else Q (some (.int 1)) (pz_wf ad ix (cw dA ad (u2 (u2 (u2 (u2 B 2 s 4) 3 s (B 0 0)) 4 s (B 4 s + 1)) 6 s 0) E π τ D))) else Q (some (.int 0)) (pz_wf ad ix (cw dA ad B E π τ D))) := by
  have hx3 : (nI s < 0) = False := by simp only [eq_iff_iff, iff_false]; exact nI_pos (by omega)
  have hx4 : ((2 : Int32) ≤ nI s) = False := lt2 hs
  rw [e7]
  simp only [pz_o_s, wf_gf hA, wf_gu hA, wf_pf hA, wf_il hA, wf_is hA, wf_rl hA, wf_rs hA, Option.map_some, Option.toList_some, Option.toList_none, List.cons_append, List.nil_append, List.length_cons, List.length_nil, Nat.reduceAdd, Nat.reduceLeDiff, Nat.zero_le, u2_e, Nat.reduceEqDiff, false_and, and_false, true_and, and_true, if_false, if_true, i10, i01, q7_0, q7_1, q7_4, q7_7, q7_8, q7_11, q7_12, q7_13, q7_16, q7_19, q7_20, q7_23, q7_26, q7_27z, q7_27o, q7_28, q7_29, q7_32, q7_33, q7_34, q7_35, q7_38, q7_41, q7_42z, q7_42o, gu_P, gf_P0, gf_P1, gf_P2, gf_P3, gf_P4, pf_P0, pf_P1, m15 hA, hx3, hx4, gu_S hs, gf_S0 hs, gf_S1 hs, gf_S2 hs, gf_S3 hs, gf_S4 hs, gf_S5 hs, gf_S6 hs, pf_S2 hs, pf_S3 hs, pf_S4 hs, pf_S5 hs, pf_S6 hs, rl_1 hs, m39 hA hs]
set_option maxHeartbeats 400000 in
set_option maxRecDepth 20000 in
theorem m8 (hA : ∀ i, ix (ad i) = i) {s : Nat} (hs : s < 2) : pz_C dA (d + 1) 8 [.ref (ad 0), .int (nI s)] (pz_wf ad ix (cw dA ad B E π τ D)) Q = (if B 2 (1 - s) = 0 then (if B 2 s = 1 ∨ B 2 s = 2 then Q (some (.int 1)) (pz_wf ad ix (cw dA ad (u2 (u2 B 2 s 3) 3 s (B 0 0)) E π τ D)) else Q (some (.int 0)) (pz_wf ad ix (cw dA ad B E π τ D))) else Q (some (.int 0)) (pz_wf ad ix (cw dA ad B E π τ D))) := by
  have hx3 : (nI s < 0) = False := by simp only [eq_iff_iff, iff_false]; exact nI_pos (by omega)
  have hx4 : ((2 : Int32) ≤ nI s) = False := lt2 hs
  rw [e8]
  simp only [pz_o_s, wf_gf hA, wf_gu hA, wf_pf hA, wf_il hA, wf_is hA, wf_rl hA, wf_rs hA, Option.map_some, Option.toList_some, Option.toList_none, List.cons_append, List.nil_append, List.length_cons, List.length_nil, Nat.reduceAdd, Nat.reduceLeDiff, Nat.zero_le, u2_e, Nat.reduceEqDiff, false_and, and_false, true_and, and_true, if_false, if_true, i10, i01, q8_0, q8_1, q8_4, q8_7, q8_8, q8_9, q8_12, q8_13, q8_14, q8_17, q8_20, q8_23, q8_24z, q8_24o, q8_25, q8_26, q8_29, q8_30, q8_31, q8_31n, q8_32, q8_32n, q8_33, q8_36, q8_37, q8_40, q8_40n, q8_41, q8_44, q8_45, q8_48, q8_49z, q8_49o, q8_50, q8_50n, q8_51, q8_52, q8_55, q8_55n, q8_56, q8_57, q8_60, q8_63, q8_64z, q8_64o, gu_P, gf_P0, gf_P1, gf_P2, gf_P3, gf_P4, pf_P0, pf_P1, m15 hA, hx3, hx4, gu_S hs, gf_S0 hs, gf_S1 hs, gf_S2 hs, gf_S3 hs, gf_S4 hs, gf_S5 hs, gf_S6 hs, pf_S2 hs, pf_S3 hs, pf_S4 hs, pf_S5 hs, pf_S6 hs, gu_S (show 1 - s < 2 by omega), gf_S0 (show 1 - s < 2 by omega), gf_S1 (show 1 - s < 2 by omega), gf_S2 (show 1 - s < 2 by omega), gf_S3 (show 1 - s < 2 by omega), gf_S4 (show 1 - s < 2 by omega), gf_S5 (show 1 - s < 2 by omega), gf_S6 (show 1 - s < 2 by omega), rl_1 hs, m18 hA hs]
  by_cases h1 : B 2 (1 - s) = 0 <;> by_cases h2 : B 2 s = 1 <;> by_cases h3 : B 2 s = 2 <;> simp [h1, h2, h3]
set_option maxHeartbeats 400000 in
set_option maxRecDepth 20000 in
theorem m9_0 (hA : ∀ i, ix (ad i) = i) : pz_C dA d 9 [.ref (ad 0), .int 0] (pz_wf ad ix (cw dA ad B E π τ D)) Q = (if B 1 0 = 0 then Q (some (.int 0)) (pz_wf ad ix (cw dA ad B E π τ D)) else Q (some (.int 1)) (pz_wf ad ix (cw dA ad (u2 B 1 0 0) E π τ D))) := by
  rw [e9]
  simp only [pz_o_s, wf_gf hA, wf_gu hA, wf_pf hA, wf_il hA, wf_is hA, wf_rl hA, wf_rs hA, Option.map_some, Option.toList_some, Option.toList_none, List.cons_append, List.nil_append, List.length_cons, List.length_nil, Nat.reduceAdd, Nat.reduceLeDiff, Nat.zero_le, u2_e, Nat.reduceEqDiff, false_and, and_false, true_and, and_true, if_false, if_true, i10, i01, q9_0, q9_1, q9_4, q9_5, q9_8, q9_9z, q9_9o, q9_10, q9_11, q9_12z, q9_12o, q9_15, q9_16z, q9_16o, gu_P, gf_P0, gf_P1, gf_P2, gf_P3, gf_P4, pf_P0, pf_P1]
set_option maxHeartbeats 400000 in
set_option maxRecDepth 20000 in
theorem m9_1 (hA : ∀ i, ix (ad i) = i) : pz_C dA d 9 [.ref (ad 0), .int 1] (pz_wf ad ix (cw dA ad B E π τ D)) Q = (if B 1 0 = 1 then Q (some (.int 0)) (pz_wf ad ix (cw dA ad B E π τ D)) else Q (some (.int 1)) (pz_wf ad ix (cw dA ad (u2 B 1 0 1) E π τ D))) := by
  rw [e9]
  simp only [pz_o_s, wf_gf hA, wf_gu hA, wf_pf hA, wf_il hA, wf_is hA, wf_rl hA, wf_rs hA, Option.map_some, Option.toList_some, Option.toList_none, List.cons_append, List.nil_append, List.length_cons, List.length_nil, Nat.reduceAdd, Nat.reduceLeDiff, Nat.zero_le, u2_e, Nat.reduceEqDiff, false_and, and_false, true_and, and_true, if_false, if_true, i10, i01, q9_0, q9_1, q9_4, q9_5, q9_8, q9_9z, q9_9o, q9_10, q9_11, q9_12z, q9_12o, q9_15, q9_16z, q9_16o, gu_P, gf_P0, gf_P1, gf_P2, gf_P3, gf_P4, pf_P0, pf_P1]
set_option maxHeartbeats 400000 in
set_option maxRecDepth 20000 in
theorem m10 (hA : ∀ i, ix (ad i) = i) {s : Nat} (hs : s < 2) : pz_C dA (d + 1) 10 [.ref (ad 0), .int (nI s)] (pz_wf ad ix (cw dA ad B E π τ D)) Q = (Q (some (.int (B 2 s))) (pz_wf ad ix (cw dA ad B E π τ D))) := by
  have hx3 : (nI s < 0) = False := by simp only [eq_iff_iff, iff_false]; exact nI_pos (by omega)
  have hx4 : ((2 : Int32) ≤ nI s) = False := lt2 hs
  rw [e10]
  simp only [pz_o_s, wf_gf hA, wf_gu hA, wf_pf hA, wf_il hA, wf_is hA, wf_rl hA, wf_rs hA, Option.map_some, Option.toList_some, Option.toList_none, List.cons_append, List.nil_append, List.length_cons, List.length_nil, Nat.reduceAdd, Nat.reduceLeDiff, Nat.zero_le, u2_e, Nat.reduceEqDiff, false_and, and_false, true_and, and_true, if_false, if_true, i10, i01, q10_0, q10_1, q10_4, q10_7, q10_8, q10_11, q10_12, q10_13, q10_16, q10_19, q10_20, gu_P, gf_P0, gf_P1, gf_P2, gf_P3, gf_P4, pf_P0, pf_P1, m15 hA, hx3, hx4, gu_S hs, gf_S0 hs, gf_S1 hs, gf_S2 hs, gf_S3 hs, gf_S4 hs, gf_S5 hs, gf_S6 hs, pf_S2 hs, pf_S3 hs, pf_S4 hs, pf_S5 hs, pf_S6 hs, rl_1 hs]
set_option maxHeartbeats 400000 in
set_option maxRecDepth 20000 in
theorem m11n (hA : ∀ i, ix (ad i) = i) {x y w : Int32} (hx : (x < 0 ∨ (¬ x < 0 ∧ 2 ≤ x)) ∨ (¬ x < 0 ∧ ¬ 2 ≤ x ∧ (y < 0 ∨ (¬ y < 0 ∧ ¬ y < 6)))) : pz_C dA (d + 1) 11 [.ref (ad 0), .int x, .int y, .int w] (pz_wf ad ix (cw dA ad B E π τ D)) Q = (Q (some (.int (-2))) (pz_wf ad ix (cw dA ad B E π τ D))) := by
  rw [e11]
  simp only [pz_o_s, wf_gf hA, wf_gu hA, wf_pf hA, wf_il hA, wf_is hA, wf_rl hA, wf_rs hA, Option.map_some, Option.toList_some, Option.toList_none, List.cons_append, List.nil_append, List.length_cons, List.length_nil, Nat.reduceAdd, Nat.reduceLeDiff, Nat.zero_le, u2_e, Nat.reduceEqDiff, false_and, and_false, true_and, and_true, if_false, if_true, i10, i01, q11_0, q11_1, q11_4, q11_7, q11_8, q11_11, q11_12, q11_14, q11_17, q11_19, q11_20, q11_21, q11_24, q11_25, q11_26, q11_29, q11_30, q11_31, q11_32, q11_35, m15 hA]
  rcases hx with (h | ⟨h, h2⟩) | ⟨h, h2, (h3 | ⟨h3, h4⟩)⟩
  · simp only [h, if_true]
  · simp only [h, h2, if_true, if_false]
  · simp only [h, h2, h3, if_true, if_false]
  · simp only [h, h2, h3, h4, if_true, if_false]
def lkR (B : Nat → Nat → Int32) (s : Nat) (w : Int32) : Int32 := if w = 0 then B 7 s else if w = 1 then B 8 s else if w = 2 then B 9 s else if w = 3 then B 10 s else if w = 4 then B 11 s else if w = 5 then B 12 s else if w = 6 then B 13 s else if w = 7 then (if B 14 s = 0 then 0 else 1) else -2
def lkC (B : Nat → Nat → Int32) (c : Nat) (w : Int32) : Int32 := if w = 0 then B 15 c else if w = 1 then B 16 c else if w = 2 then B 17 c else if w = 3 then (if B 18 c = 0 then 0 else 1) else -2
def lkM (e : Nat → Int32) (w : Int32) : Int32 := if w = 0 then e 0 else if w = 1 then e 1 else if w = 2 then e 2 else if w = 3 then (if e 0 = 3 then e 5 else if e 0 = 4 then e 5 else if e 0 = 5 then e 5 else if e 0 = 6 then e 13 else e 4) else if w = 4 then (if e 0 = 1 then e 5 else if e 0 = 2 then 0 else if e 0 = 3 then 0 else if e 0 = 4 then e 6 else if e 0 = 5 then e 10 else 0) else if w = 5 then e 3 else -2
theorem m63s (hA : ∀ i, ix (ad i) = i) {s : Nat} (hs : s < 12) {w : Int32} : pz_C dA d 63 [.ref (ad (30 + s)), .int w] (pz_wf ad ix (cw dA ad B E π τ D)) Q = Q (some (.int (lkR B s w))) (pz_wf ad ix (cw dA ad B E π τ D)) := by
  rw [m63 hA hs]
  unfold lkR
  repeat' split
  all_goals rfl
theorem m71s (hA : ∀ i, ix (ad i) = i) {s : Nat} (hs : s < 5) {w : Int32} : pz_C dA d 71 [.ref (ad (20 + s)), .int w] (pz_wf ad ix (cw dA ad B E π τ D)) Q = Q (some (.int (lkC B s w))) (pz_wf ad ix (cw dA ad B E π τ D)) := by
  rw [m71 hA hs]
  unfold lkC
  repeat' split
  all_goals rfl
theorem m83s (hA : ∀ i, ix (ad i) = i) {m : Nat} (hm : m < 25) {w : Int32} : pz_C dA (d + 1) 83 [.ref (ad (60 + m)), .int w] (pz_wf ad ix (cw dA ad B E π τ D)) Q = Q (some (.int (lkM (E m) w))) (pz_wf ad ix (cw dA ad B E π τ D)) := by
  rw [m83 hA hm]
  unfold lkM
  repeat' split
  all_goals rfl
set_option maxHeartbeats 400000 in
set_option maxRecDepth 20000 in
theorem m11 (hA : ∀ i, ix (ad i) = i) {s a : Nat} (hs : s < 2) (ha : a < 6) {w : Int32} : pz_C dA (d + 1) 11 [.ref (ad 0), .int (nI s), .int (nI a), .int w] (pz_wf ad ix (cw dA ad B E π τ D)) Q = (Q (some (.int (lkR B (6 * s + a) w))) (pz_wf ad ix (cw dA ad B E π τ D))) := by
  have hx3 : (nI s < 0) = False := by simp only [eq_iff_iff, iff_false]; exact nI_pos (by omega)
  have hx4 : ((2 : Int32) ≤ nI s) = False := lt2 hs
  have hy1 : (nI a < 0) = False := by simp only [eq_iff_iff, iff_false]; exact nI_pos (by omega)
  have hy2 : (nI a < (6 : Int32)) = True := by simp only [eq_iff_iff, iff_true]; exact nI_lt (b := 6) ha (by decide)
  rw [e11]
  simp only [pz_o_s, wf_gf hA, wf_gu hA, wf_pf hA, wf_il hA, wf_is hA, wf_rl hA, wf_rs hA, Option.map_some, Option.toList_some, Option.toList_none, List.cons_append, List.nil_append, List.length_cons, List.length_nil, Nat.reduceAdd, Nat.reduceLeDiff, Nat.zero_le, u2_e, Nat.reduceEqDiff, false_and, and_false, true_and, and_true, if_false, if_true, i10, i01, q11_0, q11_1, q11_4, q11_7, q11_8, q11_11, q11_12, q11_14, q11_17, q11_19, q11_20, q11_21, q11_24, q11_25, q11_26, q11_29, q11_30, q11_31, q11_32, q11_35, gu_P, gf_P0, gf_P1, gf_P2, gf_P3, gf_P4, pf_P0, pf_P1, m15 hA, hx3, hx4, gu_S hs, gf_S0 hs, gf_S1 hs, gf_S2 hs, gf_S3 hs, gf_S4 hs, gf_S5 hs, gf_S6 hs, pf_S2 hs, pf_S3 hs, pf_S4 hs, pf_S5 hs, pf_S6 hs, rl_1 hs, rl_12 hs ha, gu_R (show 6 * s + a < 12 by omega), m63s hA (show 6 * s + a < 12 by omega), hy1, hy2]
set_option maxHeartbeats 400000 in
set_option maxRecDepth 20000 in
theorem m12n (hA : ∀ i, ix (ad i) = i) {x w : Int32} (hx : x < 0 ∨ (¬ x < 0 ∧ 5 ≤ x)) : pz_C dA (d + 1) 12 [.ref (ad 0), .int x, .int w] (pz_wf ad ix (cw dA ad B E π τ D)) Q = (Q (some (.int (-2))) (pz_wf ad ix (cw dA ad B E π τ D))) := by
  rw [e12]
  simp only [pz_o_s, wf_gf hA, wf_gu hA, wf_pf hA, wf_il hA, wf_is hA, wf_rl hA, wf_rs hA, Option.map_some, Option.toList_some, Option.toList_none, List.cons_append, List.nil_append, List.length_cons, List.length_nil, Nat.reduceAdd, Nat.reduceLeDiff, Nat.zero_le, u2_e, Nat.reduceEqDiff, false_and, and_false, true_and, and_true, if_false, if_true, i10, i01, q12_0, q12_1, q12_4, q12_7, q12_8, q12_11, q12_12, q12_13, q12_14, q12_17, q12_20, q12_22, m16 hA]
  rcases hx with h | ⟨h, h2⟩
  · simp only [h, if_true]
  · simp only [h, h2, if_true, if_false]
set_option maxHeartbeats 400000 in
set_option maxRecDepth 20000 in
theorem m12 (hA : ∀ i, ix (ad i) = i) {c : Nat} (hcl : c < 5) {w : Int32} : pz_C dA (d + 1) 12 [.ref (ad 0), .int (nI c), .int w] (pz_wf ad ix (cw dA ad B E π τ D)) Q = Q (some (.int (lkC B c w))) (pz_wf ad ix (cw dA ad B E π τ D)) := by
  have hx1 : (nI c < 0) = False := by simp only [eq_iff_iff, iff_false]; exact nI_pos (by omega)
  have hx2 : ((5 : Int32) ≤ nI c) = False := lt5 hcl
  rw [e12]
  simp only [pz_o_s, wf_gf hA, wf_gu hA, wf_pf hA, wf_il hA, wf_is hA, wf_rl hA, wf_rs hA, Option.map_some, Option.toList_some, Option.toList_none, List.cons_append, List.nil_append, List.length_cons, List.length_nil, Nat.reduceAdd, Nat.reduceLeDiff, Nat.zero_le, u2_e, Nat.reduceEqDiff, false_and, and_false, true_and, and_true, if_false, if_true, i10, i01, q12_0, q12_1, q12_4, q12_7, q12_8, q12_11, q12_12, q12_13, q12_14, q12_17, q12_20, q12_22, gu_P, gf_P0, gf_P1, gf_P2, gf_P3, gf_P4, pf_P0, pf_P1, m16 hA, hx1, hx2, rl_2 hcl, gu_C hcl, m71s hA hcl]
set_option maxHeartbeats 400000 in
set_option maxRecDepth 20000 in
theorem m13 (hA : ∀ i, ix (ad i) = i) : pz_C dA d 13 [.ref (ad 0)] (pz_wf ad ix (cw dA ad B E π τ D)) Q = (Q (some (.int (B 20 0))) (pz_wf ad ix (cw dA ad B E π τ D))) := by
  rw [e13]
  simp only [pz_o_s, wf_gf hA, wf_gu hA, wf_pf hA, wf_il hA, wf_is hA, wf_rl hA, wf_rs hA, Option.map_some, Option.toList_some, Option.toList_none, List.cons_append, List.nil_append, List.length_cons, List.length_nil, Nat.reduceAdd, Nat.reduceLeDiff, Nat.zero_le, u2_e, Nat.reduceEqDiff, false_and, and_false, true_and, and_true, if_false, if_true, i10, i01, q13_0, q13_1, q13_4, q13_7, gu_P, gf_P0, gf_P1, gf_P2, gf_P3, gf_P4, pf_P0, pf_P1, gf_L1]
set_option maxHeartbeats 400000 in
set_option maxRecDepth 20000 in
theorem m14n (hA : ∀ i, ix (ad i) = i) {x w : Int32} (hx : x < 0 ∨ (¬ x < 0 ∧ B 20 0 ≤ x)) : pz_C dA (d + 1) 14 [.ref (ad 0), .int x, .int w] (pz_wf ad ix (cw dA ad B E π τ D)) Q = (Q (some (.int (-2))) (pz_wf ad ix (cw dA ad B E π τ D))) := by
  rw [e14]
  simp only [pz_o_s, wf_gf hA, wf_gu hA, wf_pf hA, wf_il hA, wf_is hA, wf_rl hA, wf_rs hA, Option.map_some, Option.toList_some, Option.toList_none, List.cons_append, List.nil_append, List.length_cons, List.length_nil, Nat.reduceAdd, Nat.reduceLeDiff, Nat.zero_le, u2_e, Nat.reduceEqDiff, false_and, and_false, true_and, and_true, if_false, if_true, i10, i01, q14_0, q14_1, q14_4, q14_5, q14_8, q14_11, q14_12, q14_15, q14_18, q14_19, q14_20, q14_21, q14_24, q14_27, q14_29, gu_P, gf_P0, gf_P1, gf_P2, gf_P3, gf_P4, pf_P0, pf_P1, gu_L, m73 hA]
  rcases hx with h | ⟨h, h2⟩
  · simp only [h, if_true]
  · simp only [h, h2, if_true, if_false]
set_option maxHeartbeats 400000 in
set_option maxRecDepth 20000 in
theorem m14 (hA : ∀ i, ix (ad i) = i) {k n : Nat} (hk : k < n) (hn : n ≤ 24) (hc : B 20 0 = nI n) (hp : ∀ j, π j < 25) {w : Int32} : pz_C dA (d + 2) 14 [.ref (ad 0), .int (nI k), .int w] (pz_wf ad ix (cw dA ad B E π τ D)) Q = Q (some (.int (lkM (E (π k)) w))) (pz_wf ad ix (cw dA ad B E π τ D)) := by
  have hx1 : (nI k < 0) = False := by simp only [eq_iff_iff, iff_false]; exact nI_pos (by omega)
  have hx2 : (nI n ≤ nI k) = False := nle_nI hk (by omega)
  rw [e14]
  simp only [pz_o_s, wf_gf hA, wf_gu hA, wf_pf hA, wf_il hA, wf_is hA, wf_rl hA, wf_rs hA, Option.map_some, Option.toList_some, Option.toList_none, List.cons_append, List.nil_append, List.length_cons, List.length_nil, Nat.reduceAdd, Nat.reduceLeDiff, Nat.zero_le, u2_e, Nat.reduceEqDiff, false_and, and_false, true_and, and_true, if_false, if_true, i10, i01, q14_0, q14_1, q14_4, q14_5, q14_8, q14_11, q14_12, q14_15, q14_18, q14_19, q14_20, q14_21, q14_24, q14_27, q14_29, gu_P, gf_P0, gf_P1, gf_P2, gf_P3, gf_P4, pf_P0, pf_P1, gu_L, gf_L0, m73 hA, hc, hx1, hx2, rl_4 (show k < 24 by omega), gu_M (hp k), m83s hA (hp k)]
end CQ
