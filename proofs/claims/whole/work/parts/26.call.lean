/-! the calls -/
section CO
variable {dA ad ix : Nat → Nat} {B E D : Nat → Nat → Int32} {π : Nat → Nat} {τ d : Nat} {Q : Option Value → pz_F → Prop}

set_option maxHeartbeats 400000 in
set_option maxRecDepth 20000 in
theorem m29_0 (hA : ∀ i, ix (ad i) = i) {n : Nat} (hn : n ≤ 24) (hp : ∀ j, π j < 25) {m : Nat} (hm : m < 25) {s : Nat} (hs : s < 2) (he : E m 2 = nI s) (hc : B 20 0 = nI n) (hk : E m 0 = 0) : pz_C dA (d + 4) 29 [.ref (ad 0), .ref (ad (60 + m))] (pz_wf ad ix (cw dA ad B E π τ D)) Q = (Q none (pz_wf ad ix (cw dA ad (aAsk π s (E m) (B, E)).1 (aAsk π s (E m) (B, E)).2 π τ D))) := by
  rw [e29]
  simp only [pz_o_s, wf_gf hA, wf_gu hA, wf_pf hA, wf_il hA, wf_is hA, wf_rl hA, wf_rs hA, Option.map_some, Option.toList_some, Option.toList_none, List.cons_append, List.nil_append, List.length_cons, List.length_nil, Nat.reduceAdd, Nat.reduceLeDiff, Nat.zero_le, u2_e, Nat.reduceEqDiff, false_and, and_false, true_and, and_true, if_false, if_true, i10, i01, q29_0, q29_0n, q29_1, q29_4, q29_44, q29_45, q29_45n, q29_46, q29_49, q29_52, q29_53, q29_56, q29_56n, q29_57, q29_60, q29_61, q29_61n, q29_62, q29_63, q29_66, q29_69, q29_72, q29_73, q29_76, q29_76n, q29_77, q29_80, q29_81, q29_81n, q29_82, q29_85, q29_88, q29_89, q29_89n, q29_90, q29_93, q29_96, q29_97, q29_97n, q29_98, q29_101, q29_104, q29_105, q29_105n, q29_106, q29_109, q29_112, q29_113, q29_113n, q29_114, q29_117, gu_M hm, gf_M0 hm, gf_M1 hm, gf_M2 hm, gf_M3 hm, gf_M4 hm, gf_M5 hm, gf_M6 hm, gf_M7 hm, gf_M8 hm, gf_M9 hm, gf_M10 hm, gf_M11 hm, gf_M12 hm, gf_M13 hm, gf_M14 hm, gu_P, hk, m30 hA hn hp hm hs he hc]
def aLea (c : Nat) (e : Nat → Int32) (B : Nat → Nat → Int32) : Nat → Nat → Int32 := if B 18 c = 0 then B else if e 4 = B 17 c then (if e 8 < B 0 0 then u2 B 18 c 0 else u2 (u2 (u2 B 18 c 0) 15 c (e 5)) 16 c (e 8)) else B
def aDen (c : Nat) (e : Nat → Int32) (B : Nat → Nat → Int32) : Nat → Nat → Int32 := if B 18 c = 0 then B else if e 4 = B 17 c then u2 B 18 c 0 else B
set_option maxHeartbeats 400000 in
set_option maxRecDepth 20000 in
theorem m29_1 (hA : ∀ i, ix (ad i) = i) {m : Nat} (hm : m < 25) {c : Nat} (hcl : c < 5) (hec : E m 2 = nI c) (hk : E m 0 = 1) : pz_C dA (d + 2) 29 [.ref (ad 0), .ref (ad (60 + m))] (pz_wf ad ix (cw dA ad B E π τ D)) Q = (Q none (pz_wf ad ix (cw dA ad (aLea c (E m) B) E π τ D))) := by
  rw [e29]
  simp only [pz_o_s, wf_gf hA, wf_gu hA, wf_pf hA, wf_il hA, wf_is hA, wf_rl hA, wf_rs hA, Option.map_some, Option.toList_some, Option.toList_none, List.cons_append, List.nil_append, List.length_cons, List.length_nil, Nat.reduceAdd, Nat.reduceLeDiff, Nat.zero_le, u2_e, Nat.reduceEqDiff, false_and, and_false, true_and, and_true, if_false, if_true, i10, i01, q29_0, q29_0n, q29_1, q29_4, q29_44, q29_45, q29_45n, q29_46, q29_49, q29_52, q29_53, q29_56, q29_56n, q29_57, q29_60, q29_61, q29_61n, q29_62, q29_63, q29_66, q29_69, q29_72, q29_73, q29_76, q29_76n, q29_77, q29_80, q29_81, q29_81n, q29_82, q29_85, q29_88, q29_89, q29_89n, q29_90, q29_93, q29_96, q29_97, q29_97n, q29_98, q29_101, q29_104, q29_105, q29_105n, q29_106, q29_109, q29_112, q29_113, q29_113n, q29_114, q29_117, gu_M hm, gf_M0 hm, gf_M1 hm, gf_M2 hm, gf_M3 hm, gf_M4 hm, gf_M5 hm, gf_M6 hm, gf_M7 hm, gf_M8 hm, gf_M9 hm, gf_M10 hm, gf_M11 hm, gf_M12 hm, gf_M13 hm, gf_M14 hm, gu_P, gf_P0, gf_P1, gf_P2, gf_P3, gf_P4, pf_P0, pf_P1, hk, hec, rl_2 hcl, gu_C hcl, m69 hA hcl hm, li_0_1, li_0_2, li_0_3, li_0_4, li_0_5, li_0_6, li_0_7, li_1_0, li_1_2, li_1_3, li_1_4, li_1_5, li_1_6, li_1_7, li_2_0, li_2_1, li_2_3, li_2_4, li_2_5, li_2_6, li_2_7, li_3_0, li_3_1, li_3_2, li_3_4, li_3_5, li_3_6, li_3_7, li_4_0, li_4_1, li_4_2, li_4_3, li_4_5, li_4_6, li_4_7, li_5_0, li_5_1, li_5_2, li_5_3, li_5_4, li_5_6, li_5_7, li_6_0, li_6_1, li_6_2, li_6_3, li_6_4, li_6_5, li_6_7, li_7_0, li_7_1, li_7_2, li_7_3, li_7_4, li_7_5, li_7_6]
  by_cases h1 : B 18 c = 0 <;> by_cases h2 : E m 4 = B 17 c <;> by_cases h3 : E m 8 < B 0 0 <;> simp [aLea, h1, h2, h3]
set_option maxHeartbeats 400000 in
set_option maxRecDepth 20000 in
theorem m29_2 (hA : ∀ i, ix (ad i) = i) {m : Nat} (hm : m < 25) {c : Nat} (hcl : c < 5) (hec : E m 2 = nI c) (hk : E m 0 = 2) : pz_C dA (d + 2) 29 [.ref (ad 0), .ref (ad (60 + m))] (pz_wf ad ix (cw dA ad B E π τ D)) Q = (Q none (pz_wf ad ix (cw dA ad (aDen c (E m) B) E π τ D))) := by
  rw [e29]
  simp only [pz_o_s, wf_gf hA, wf_gu hA, wf_pf hA, wf_il hA, wf_is hA, wf_rl hA, wf_rs hA, Option.map_some, Option.toList_some, Option.toList_none, List.cons_append, List.nil_append, List.length_cons, List.length_nil, Nat.reduceAdd, Nat.reduceLeDiff, Nat.zero_le, u2_e, Nat.reduceEqDiff, false_and, and_false, true_and, and_true, if_false, if_true, i10, i01, q29_0, q29_0n, q29_1, q29_4, q29_44, q29_45, q29_45n, q29_46, q29_49, q29_52, q29_53, q29_56, q29_56n, q29_57, q29_60, q29_61, q29_61n, q29_62, q29_63, q29_66, q29_69, q29_72, q29_73, q29_76, q29_76n, q29_77, q29_80, q29_81, q29_81n, q29_82, q29_85, q29_88, q29_89, q29_89n, q29_90, q29_93, q29_96, q29_97, q29_97n, q29_98, q29_101, q29_104, q29_105, q29_105n, q29_106, q29_109, q29_112, q29_113, q29_113n, q29_114, q29_117, gu_M hm, gf_M0 hm, gf_M1 hm, gf_M2 hm, gf_M3 hm, gf_M4 hm, gf_M5 hm, gf_M6 hm, gf_M7 hm, gf_M8 hm, gf_M9 hm, gf_M10 hm, gf_M11 hm, gf_M12 hm, gf_M13 hm, gf_M14 hm, gu_P, gf_P0, gf_P1, gf_P2, gf_P3, gf_P4, pf_P0, pf_P1, hk, hec, rl_2 hcl, gu_C hcl, m70 hA hcl hm, li_0_1, li_0_2, li_0_3, li_0_4, li_0_5, li_0_6, li_0_7, li_1_0, li_1_2, li_1_3, li_1_4, li_1_5, li_1_6, li_1_7, li_2_0, li_2_1, li_2_3, li_2_4, li_2_5, li_2_6, li_2_7, li_3_0, li_3_1, li_3_2, li_3_4, li_3_5, li_3_6, li_3_7, li_4_0, li_4_1, li_4_2, li_4_3, li_4_5, li_4_6, li_4_7, li_5_0, li_5_1, li_5_2, li_5_3, li_5_4, li_5_6, li_5_7, li_6_0, li_6_1, li_6_2, li_6_3, li_6_4, li_6_5, li_6_7, li_7_0, li_7_1, li_7_2, li_7_3, li_7_4, li_7_5, li_7_6]
  by_cases h1 : B 18 c = 0 <;> by_cases h2 : E m 4 = B 17 c <;> simp [aDen, h1, h2]
def aRel (s a : Nat) (e : Nat → Int32) (B : Nat → Nat → Int32) : Nat → Nat → Int32 := if srv B s = true ∧ B 7 (6 * s + a) = 1 ∧ B 8 (6 * s + a) = e 1 then b_end B (6 * s + a) else B
def aAck (s a : Nat) (e : Nat → Int32) (B : Nat → Nat → Int32) : Nat → Nat → Int32 := if srv B s = true then b_ack B (6 * s + a) (e 9) (e 10) (e 11) else B
set_option maxHeartbeats 400000 in
set_option maxRecDepth 20000 in
theorem m29_3 (hA : ∀ i, ix (ad i) = i) {m : Nat} (hm : m < 25) {s : Nat} (hs : s < 2) (he : E m 2 = nI s) {a : Nat} (ha : a < 6) (hea : E m 5 = nI a) (hk : E m 0 = 3) : pz_C dA (d + 3) 29 [.ref (ad 0), .ref (ad (60 + m))] (pz_wf ad ix (cw dA ad B E π τ D)) Q = (Q none (pz_wf ad ix (cw dA ad (aRel s a (E m) B) E π τ D))) := by
  rw [e29]
  simp only [pz_o_s, wf_gf hA, wf_gu hA, wf_pf hA, wf_il hA, wf_is hA, wf_rl hA, wf_rs hA, Option.map_some, Option.toList_some, Option.toList_none, List.cons_append, List.nil_append, List.length_cons, List.length_nil, Nat.reduceAdd, Nat.reduceLeDiff, Nat.zero_le, u2_e, Nat.reduceEqDiff, false_and, and_false, true_and, and_true, if_false, if_true, i10, i01, q29_0, q29_0n, q29_1, q29_4, q29_44, q29_45, q29_45n, q29_46, q29_49, q29_52, q29_53, q29_56, q29_56n, q29_57, q29_60, q29_61, q29_61n, q29_62, q29_63, q29_66, q29_69, q29_72, q29_73, q29_76, q29_76n, q29_77, q29_80, q29_81, q29_81n, q29_82, q29_85, q29_88, q29_89, q29_89n, q29_90, q29_93, q29_96, q29_97, q29_97n, q29_98, q29_101, q29_104, q29_105, q29_105n, q29_106, q29_109, q29_112, q29_113, q29_113n, q29_114, q29_117, gu_M hm, gf_M0 hm, gf_M1 hm, gf_M2 hm, gf_M3 hm, gf_M4 hm, gf_M5 hm, gf_M6 hm, gf_M7 hm, gf_M8 hm, gf_M9 hm, gf_M10 hm, gf_M11 hm, gf_M12 hm, gf_M13 hm, gf_M14 hm, gu_P, hk, m31 hA hm hs he ha hea, li_0_1, li_0_2, li_0_3, li_0_4, li_0_5, li_0_6, li_0_7, li_1_0, li_1_2, li_1_3, li_1_4, li_1_5, li_1_6, li_1_7, li_2_0, li_2_1, li_2_3, li_2_4, li_2_5, li_2_6, li_2_7, li_3_0, li_3_1, li_3_2, li_3_4, li_3_5, li_3_6, li_3_7, li_4_0, li_4_1, li_4_2, li_4_3, li_4_5, li_4_6, li_4_7, li_5_0, li_5_1, li_5_2, li_5_3, li_5_4, li_5_6, li_5_7, li_6_0, li_6_1, li_6_2, li_6_3, li_6_4, li_6_5, li_6_7, li_7_0, li_7_1, li_7_2, li_7_3, li_7_4, li_7_5, li_7_6]
  by_cases h1 : srv B s = true ∧ B 7 (6 * s + a) = 1 ∧ B 8 (6 * s + a) = E m 1 <;> simp only [aRel, h1, if_true, if_false, and_self]
set_option maxHeartbeats 400000 in
set_option maxRecDepth 20000 in
theorem m29_4 (hA : ∀ i, ix (ad i) = i) {n : Nat} (hn : n ≤ 24) (hp : ∀ j, π j < 25) {m : Nat} (hm : m < 25) {s : Nat} (hs : s < 2) (he : E m 2 = nI s) {a : Nat} (ha : a < 6) (hea : E m 5 = nI a) (hc : B 20 0 = nI n) (hk : E m 0 = 4) : pz_C dA (d + 5) 29 [.ref (ad 0), .ref (ad (60 + m))] (pz_wf ad ix (cw dA ad B E π τ D)) Q = (Q none (pz_wf ad ix (cw dA ad (aUpd π s a (E m) (B, E)).1 (aUpd π s a (E m) (B, E)).2 π τ D))) := by
  rw [e29]
  simp only [pz_o_s, wf_gf hA, wf_gu hA, wf_pf hA, wf_il hA, wf_is hA, wf_rl hA, wf_rs hA, Option.map_some, Option.toList_some, Option.toList_none, List.cons_append, List.nil_append, List.length_cons, List.length_nil, Nat.reduceAdd, Nat.reduceLeDiff, Nat.zero_le, u2_e, Nat.reduceEqDiff, false_and, and_false, true_and, and_true, if_false, if_true, i10, i01, q29_0, q29_0n, q29_1, q29_4, q29_44, q29_45, q29_45n, q29_46, q29_49, q29_52, q29_53, q29_56, q29_56n, q29_57, q29_60, q29_61, q29_61n, q29_62, q29_63, q29_66, q29_69, q29_72, q29_73, q29_76, q29_76n, q29_77, q29_80, q29_81, q29_81n, q29_82, q29_85, q29_88, q29_89, q29_89n, q29_90, q29_93, q29_96, q29_97, q29_97n, q29_98, q29_101, q29_104, q29_105, q29_105n, q29_106, q29_109, q29_112, q29_113, q29_113n, q29_114, q29_117, gu_M hm, gf_M0 hm, gf_M1 hm, gf_M2 hm, gf_M3 hm, gf_M4 hm, gf_M5 hm, gf_M6 hm, gf_M7 hm, gf_M8 hm, gf_M9 hm, gf_M10 hm, gf_M11 hm, gf_M12 hm, gf_M13 hm, gf_M14 hm, gu_P, hk, m32 hA hn hp hm hs he ha hea hc, li_0_1, li_0_2, li_0_3, li_0_4, li_0_5, li_0_6, li_0_7, li_1_0, li_1_2, li_1_3, li_1_4, li_1_5, li_1_6, li_1_7, li_2_0, li_2_1, li_2_3, li_2_4, li_2_5, li_2_6, li_2_7, li_3_0, li_3_1, li_3_2, li_3_4, li_3_5, li_3_6, li_3_7, li_4_0, li_4_1, li_4_2, li_4_3, li_4_5, li_4_6, li_4_7, li_5_0, li_5_1, li_5_2, li_5_3, li_5_4, li_5_6, li_5_7, li_6_0, li_6_1, li_6_2, li_6_3, li_6_4, li_6_5, li_6_7, li_7_0, li_7_1, li_7_2, li_7_3, li_7_4, li_7_5, li_7_6]
set_option maxHeartbeats 400000 in
set_option maxRecDepth 20000 in
theorem m29_5 (hA : ∀ i, ix (ad i) = i) {m : Nat} (hm : m < 25) {s : Nat} (hs : s < 2) (he : E m 2 = nI s) {a : Nat} (ha : a < 6) (hea : E m 5 = nI a) (hk : E m 0 = 5) : pz_C dA (d + 3) 29 [.ref (ad 0), .ref (ad (60 + m))] (pz_wf ad ix (cw dA ad B E π τ D)) Q = (Q none (pz_wf ad ix (cw dA ad (aAck s a (E m) B) E π τ D))) := by
  rw [e29]
  simp only [pz_o_s, wf_gf hA, wf_gu hA, wf_pf hA, wf_il hA, wf_is hA, wf_rl hA, wf_rs hA, Option.map_some, Option.toList_some, Option.toList_none, List.cons_append, List.nil_append, List.length_cons, List.length_nil, Nat.reduceAdd, Nat.reduceLeDiff, Nat.zero_le, u2_e, Nat.reduceEqDiff, false_and, and_false, true_and, and_true, if_false, if_true, i10, i01, q29_0, q29_0n, q29_1, q29_4, q29_44, q29_45, q29_45n, q29_46, q29_49, q29_52, q29_53, q29_56, q29_56n, q29_57, q29_60, q29_61, q29_61n, q29_62, q29_63, q29_66, q29_69, q29_72, q29_73, q29_76, q29_76n, q29_77, q29_80, q29_81, q29_81n, q29_82, q29_85, q29_88, q29_89, q29_89n, q29_90, q29_93, q29_96, q29_97, q29_97n, q29_98, q29_101, q29_104, q29_105, q29_105n, q29_106, q29_109, q29_112, q29_113, q29_113n, q29_114, q29_117, gu_M hm, gf_M0 hm, gf_M1 hm, gf_M2 hm, gf_M3 hm, gf_M4 hm, gf_M5 hm, gf_M6 hm, gf_M7 hm, gf_M8 hm, gf_M9 hm, gf_M10 hm, gf_M11 hm, gf_M12 hm, gf_M13 hm, gf_M14 hm, gu_P, hk, m33 hA hm hs he ha hea, li_0_1, li_0_2, li_0_3, li_0_4, li_0_5, li_0_6, li_0_7, li_1_0, li_1_2, li_1_3, li_1_4, li_1_5, li_1_6, li_1_7, li_2_0, li_2_1, li_2_3, li_2_4, li_2_5, li_2_6, li_2_7, li_3_0, li_3_1, li_3_2, li_3_4, li_3_5, li_3_6, li_3_7, li_4_0, li_4_1, li_4_2, li_4_3, li_4_5, li_4_6, li_4_7, li_5_0, li_5_1, li_5_2, li_5_3, li_5_4, li_5_6, li_5_7, li_6_0, li_6_1, li_6_2, li_6_3, li_6_4, li_6_5, li_6_7, li_7_0, li_7_1, li_7_2, li_7_3, li_7_4, li_7_5, li_7_6]
  by_cases h1 : srv B s = true <;> simp only [aAck, h1, if_true, if_false, Bool.false_eq_true]
set_option maxHeartbeats 400000 in
set_option maxRecDepth 20000 in
theorem m29_6 (hA : ∀ i, ix (ad i) = i) {m : Nat} (hm : m < 25) {s : Nat} (hs : s < 2) (he : E m 2 = nI s) (hk : E m 0 = 6) : pz_C dA (d + 3) 29 [.ref (ad 0), .ref (ad (60 + m))] (pz_wf ad ix (cw dA ad B E π τ D)) Q = (Q none (pz_wf ad ix (cw dA ad (aDem s (E m) B) E π τ D))) := by
  rw [e29]
  simp only [pz_o_s, wf_gf hA, wf_gu hA, wf_pf hA, wf_il hA, wf_is hA, wf_rl hA, wf_rs hA, Option.map_some, Option.toList_some, Option.toList_none, List.cons_append, List.nil_append, List.length_cons, List.length_nil, Nat.reduceAdd, Nat.reduceLeDiff, Nat.zero_le, u2_e, Nat.reduceEqDiff, false_and, and_false, true_and, and_true, if_false, if_true, i10, i01, q29_0, q29_0n, q29_1, q29_4, q29_44, q29_45, q29_45n, q29_46, q29_49, q29_52, q29_53, q29_56, q29_56n, q29_57, q29_60, q29_61, q29_61n, q29_62, q29_63, q29_66, q29_69, q29_72, q29_73, q29_76, q29_76n, q29_77, q29_80, q29_81, q29_81n, q29_82, q29_85, q29_88, q29_89, q29_89n, q29_90, q29_93, q29_96, q29_97, q29_97n, q29_98, q29_101, q29_104, q29_105, q29_105n, q29_106, q29_109, q29_112, q29_113, q29_113n, q29_114, q29_117, gu_M hm, gf_M0 hm, gf_M1 hm, gf_M2 hm, gf_M3 hm, gf_M4 hm, gf_M5 hm, gf_M6 hm, gf_M7 hm, gf_M8 hm, gf_M9 hm, gf_M10 hm, gf_M11 hm, gf_M12 hm, gf_M13 hm, gf_M14 hm, gu_P, hk, m34 hA hm hs he, li_0_1, li_0_2, li_0_3, li_0_4, li_0_5, li_0_6, li_0_7, li_1_0, li_1_2, li_1_3, li_1_4, li_1_5, li_1_6, li_1_7, li_2_0, li_2_1, li_2_3, li_2_4, li_2_5, li_2_6, li_2_7, li_3_0, li_3_1, li_3_2, li_3_4, li_3_5, li_3_6, li_3_7, li_4_0, li_4_1, li_4_2, li_4_3, li_4_5, li_4_6, li_4_7, li_5_0, li_5_1, li_5_2, li_5_3, li_5_4, li_5_6, li_5_7, li_6_0, li_6_1, li_6_2, li_6_3, li_6_4, li_6_5, li_6_7, li_7_0, li_7_1, li_7_2, li_7_3, li_7_4, li_7_5, li_7_6]
set_option maxHeartbeats 400000 in
set_option maxRecDepth 20000 in
theorem m4n (hA : ∀ i, ix (ad i) = i) {x : Int32} (hx : x < 0 ∨ (¬ x < 0 ∧ B 20 0 ≤ x)) : pz_C dA (d + 1) 4 [.ref (ad 0), .int x] (pz_wf ad ix (cw dA ad B E π τ D)) Q = (Q (some (.int 0)) (pz_wf ad ix (cw dA ad B E π τ D))) := by
  rw [e4]
  simp only [pz_o_s, wf_gf hA, wf_gu hA, wf_pf hA, wf_il hA, wf_is hA, wf_rl hA, wf_rs hA, Option.map_some, Option.toList_some, Option.toList_none, List.cons_append, List.nil_append, List.length_cons, List.length_nil, Nat.reduceAdd, Nat.reduceLeDiff, Nat.zero_le, u2_e, Nat.reduceEqDiff, false_and, and_false, true_and, and_true, if_false, if_true, i10, i01, q4_0, q4_1, q4_4, q4_5, q4_8, q4_11, q4_12z, q4_12o, q4_13, q4_14, q4_17, q4_18, q4_21, q4_21n, q4_22, q4_23, q4_23n, q4_24, q4_27, q4_30, q4_31z, q4_31o, q4_32, q4_33, q4_33n, q4_34, q4_37, q4_38z, q4_38o, gu_P, gf_P0, gf_P1, gf_P2, gf_P3, gf_P4, pf_P0, pf_P1, gu_L, m73 hA]
  rcases hx with h | ⟨h, h2⟩
  · simp only [h, if_true]
  · simp only [h, h2, if_true, if_false]
set_option maxHeartbeats 400000 in
set_option maxRecDepth 20000 in
theorem m5n (hA : ∀ i, ix (ad i) = i) {x : Int32} (hx : x < 0 ∨ (¬ x < 0 ∧ B 20 0 ≤ x)) : pz_C dA (d + 1) 5 [.ref (ad 0), .int x] (pz_wf ad ix (cw dA ad B E π τ D)) Q = (Q (some (.int 0)) (pz_wf ad ix (cw dA ad B E π τ D))) := by
  rw [e5]
  simp only [pz_o_s, wf_gf hA, wf_gu hA, wf_pf hA, wf_il hA, wf_is hA, wf_rl hA, wf_rs hA, Option.map_some, Option.toList_some, Option.toList_none, List.cons_append, List.nil_append, List.length_cons, List.length_nil, Nat.reduceAdd, Nat.reduceLeDiff, Nat.zero_le, u2_e, Nat.reduceEqDiff, false_and, and_false, true_and, and_true, if_false, if_true, i10, i01, q5_0, q5_1, q5_4, q5_5, q5_8, q5_11, q5_12z, q5_12o, q5_13, q5_14, q5_17, q5_18, q5_21, q5_22, q5_23z, q5_23o, gu_P, gf_P0, gf_P1, gf_P2, gf_P3, gf_P4, pf_P0, pf_P1, gu_L, m73 hA]
  rcases hx with h | ⟨h, h2⟩
  · simp only [h, if_true]
  · simp only [h, h2, if_true, if_false]
theorem shf_lt : ∀ (t i : Nat) (π : Nat → Nat), (∀ j, π j < 25) → ∀ j, shf t i π j < 25 := by
  intro t
  induction t with
  | zero => intro i π h; exact h
  | succ t ih => intro i π h; exact ih _ _ (va_up_lt h i (h (i + 1)))
def pt (π : Nat → Nat) (τ n k : Nat) : Nat → Nat := va_up (shf (n - k) k π) n τ
set_option maxHeartbeats 400000 in
set_option maxRecDepth 20000 in
theorem m5 (hA : ∀ i, ix (ad i) = i) {k n : Nat} (hk : k < n + 1) (hn : n + 1 ≤ 24) (hc : B 20 0 = nI (n + 1)) (hp : ∀ j, π j < 25) (ht : τ < 25) : pz_C dA (d + 1) 5 [.ref (ad 0), .int (nI k)] (pz_wf ad ix (cw dA ad B E π τ D)) Q = Q (some (.int 1)) (pz_wf ad ix (cw dA ad (u2 B 20 0 (nI n)) E (pt π τ n k) (π k) D)) := by
  have hx1 : (nI k < 0) = False := by simp only [eq_iff_iff, iff_false]; exact nI_pos (by omega)
  have hx2 : (nI (n + 1) ≤ nI k) = False := nle_nI hk (by omega)
  have hs := fun t i j => shf_lt t i π hp j
  have hq : va_up (shf (n - k) k π) n τ = pt π τ n k := rfl
  rw [e5]
  simp only [pz_o_s, wf_gf hA, wf_gu hA, wf_pf hA, wf_il hA, wf_is hA, wf_rl hA, wf_rs hA, Option.map_some, Option.toList_some, Option.toList_none, List.cons_append, List.nil_append, List.length_cons, List.length_nil, Nat.reduceAdd, Nat.reduceLeDiff, Nat.zero_le, u2_e, Nat.reduceEqDiff, false_and, and_false, true_and, and_true, if_false, if_true, i10, i01, q5_0, q5_1, q5_4, q5_5, q5_8, q5_11, q5_12z, q5_12o, q5_13, q5_14, q5_17, q5_18, q5_21, q5_22, q5_23z, q5_23o, gu_P, gf_P0, gf_P1, gf_P2, gf_P3, gf_P4, pf_P0, pf_P1, gu_L, m73 hA, hc, hx1, hx2, m75 hA hk hn hc hp ht hs, hq]
set_option maxHeartbeats 400000 in
set_option maxRecDepth 20000 in
theorem m4 (hA : ∀ i, ix (ad i) = i) {k n : Nat} (hk : k < n + 1) (hn : n + 1 ≤ 24) (hc : B 20 0 = nI (n + 1)) (hp : ∀ j, π j < 25) (ht : τ < 25) : pz_C dA (d + 1) 4 [.ref (ad 0), .int (nI k)] (pz_wf ad ix (cw dA ad B E π τ D)) Q = pz_C dA d 28 [.ref (ad 0), .ref (ad (60 + π k))] (pz_wf ad ix (cw dA ad (u2 B 20 0 (nI n)) E (pt π τ n k) (π k) D)) (fun r f => pz_R dA (d + 1) 4 27 [.ref (ad 0), .int (nI k), .ref (ad (60 + π k))] r.toList f Q) := by
  have hx1 : (nI k < 0) = False := by simp only [eq_iff_iff, iff_false]; exact nI_pos (by omega)
  have hx2 : (nI (n + 1) ≤ nI k) = False := nle_nI hk (by omega)
  have hs := fun t i j => shf_lt t i π hp j
  have hq : va_up (shf (n - k) k π) n τ = pt π τ n k := rfl
  rw [e4]
  simp only [pz_o_s, wf_gf hA, wf_gu hA, wf_pf hA, wf_il hA, wf_is hA, wf_rl hA, wf_rs hA, Option.map_some, Option.toList_some, Option.toList_none, List.cons_append, List.nil_append, List.length_cons, List.length_nil, Nat.reduceAdd, Nat.reduceLeDiff, Nat.zero_le, u2_e, Nat.reduceEqDiff, false_and, and_false, true_and, and_true, if_false, if_true, i10, i01, List.append_nil, q4_0, q4_1, q4_4, q4_5, q4_8, q4_11, q4_12z, q4_12o, q4_13, q4_14, q4_17, q4_18, q4_21, q4_21n, q4_22, q4_23, q4_23n, q4_24, q4_27, q4_30, q4_31z, q4_31o, q4_32, q4_33, q4_33n, q4_34, q4_37, q4_38z, q4_38o, gu_P, gf_P0, gf_P1, gf_P2, gf_P3, gf_P4, pf_P0, pf_P1, gu_L, m73 hA, hc, hx1, hx2, m75 hA hk hn hc hp ht hs, hq]
set_option maxHeartbeats 400000 in
set_option maxRecDepth 20000 in
theorem m4z (hA : ∀ i, ix (ad i) = i) {k q : Nat} : pz_R dA d 4 27 [.ref (ad 0), .int (nI k), .ref q] [.int 0] (pz_wf ad ix (cw dA ad B E π τ D)) Q = Q (some (.int 0)) (pz_wf ad ix (cw dA ad B E π τ D)) := by
  simp only [pz_o_s, wf_gf hA, wf_gu hA, wf_pf hA, wf_il hA, wf_is hA, wf_rl hA, wf_rs hA, Option.map_some, Option.toList_some, Option.toList_none, List.cons_append, List.nil_append, List.length_cons, List.length_nil, Nat.reduceAdd, Nat.reduceLeDiff, Nat.zero_le, u2_e, Nat.reduceEqDiff, false_and, and_false, true_and, and_true, if_false, if_true, i10, i01, q4_0, q4_1, q4_4, q4_5, q4_8, q4_11, q4_12z, q4_12o, q4_13, q4_14, q4_17, q4_18, q4_21, q4_21n, q4_22, q4_23, q4_23n, q4_24, q4_27, q4_30, q4_31z, q4_31o, q4_32, q4_33, q4_33n, q4_34, q4_37, q4_38z, q4_38o]
set_option maxHeartbeats 400000 in
set_option maxRecDepth 20000 in
theorem m4o (hA : ∀ i, ix (ad i) = i) {k : Nat} {m : Nat} (hm : m < 25) : pz_R dA (d + 1) 4 27 [.ref (ad 0), .int (nI k), .ref (ad (60 + m))] [.int 1] (pz_wf ad ix (cw dA ad B E π τ D)) Q = pz_C dA d 29 [.ref (ad 0), .ref (ad (60 + m))] (pz_wf ad ix (cw dA ad B E π τ D)) (fun r f => pz_R dA (d + 1) 4 37 [.ref (ad 0), .int (nI k), .ref (ad (60 + m))] r.toList f Q) := by
  simp only [pz_o_s, wf_gf hA, wf_gu hA, wf_pf hA, wf_il hA, wf_is hA, wf_rl hA, wf_rs hA, Option.map_some, Option.toList_some, Option.toList_none, List.cons_append, List.nil_append, List.length_cons, List.length_nil, Nat.reduceAdd, Nat.reduceLeDiff, Nat.zero_le, u2_e, Nat.reduceEqDiff, false_and, and_false, true_and, and_true, if_false, if_true, i10, i01, List.append_nil, gu_P, q4_0, q4_1, q4_4, q4_5, q4_8, q4_11, q4_12z, q4_12o, q4_13, q4_14, q4_17, q4_18, q4_21, q4_21n, q4_22, q4_23, q4_23n, q4_24, q4_27, q4_30, q4_31z, q4_31o, q4_32, q4_33, q4_33n, q4_34, q4_38z, q4_38o]
set_option maxHeartbeats 400000 in
set_option maxRecDepth 20000 in
theorem m4e {k q : Nat} {f : pz_F} : pz_R dA d 4 37 [.ref (ad 0), .int (nI k), .ref q] (none : Option Value).toList f Q = Q (some (.int 1)) f := by
  simp only [Option.toList_none, q4_37, q4_38z, q4_38o]
set_option maxHeartbeats 400000 in
set_option maxRecDepth 20000 in
theorem m2n (hA : ∀ i, ix (ad i) = i) {x y : Int32} (hx : (x < 0 ∨ (¬ x < 0 ∧ 5 ≤ x)) ∨ (¬ x < 0 ∧ ¬ 5 ≤ x ∧ (y < 0 ∨ (¬ y < 0 ∧ 2 ≤ y)))) : pz_C dA (d + 2) 2 [.ref (ad 0), .int x, .int y] (pz_wf ad ix (cw dA ad B E π τ D)) Q = (Q (some (.int 0)) (pz_wf ad ix (cw dA ad B E π τ D))) := by
  rw [e2]
  simp only [pz_o_s, wf_gf hA, wf_gu hA, wf_pf hA, wf_il hA, wf_is hA, wf_rl hA, wf_rs hA, Option.map_some, Option.toList_some, Option.toList_none, List.cons_append, List.nil_append, List.length_cons, List.length_nil, Nat.reduceAdd, Nat.reduceLeDiff, Nat.zero_le, u2_e, Nat.reduceEqDiff, false_and, and_false, true_and, and_true, if_false, if_true, i10, i01, q2_0, q2_1, q2_4, q2_7, q2_8, q2_11, q2_14, q2_15, q2_18, q2_19, q2_20, q2_21, q2_24, q2_27, q2_30, q2_31z, q2_31o, q2_32, q2_33, q2_36, q2_37, q2_38, q2_38n, q2_39, q2_39n, q2_40, q2_41, q2_44, q2_45, q2_46, q2_49, q2_49n, q2_50, q2_51z, q2_51o, q2_54, q2_55, q2_56, q2_57, q2_58, q2_58n, q2_59, q2_62, q2_65, q2_66z, q2_66o, m15 hA, m16 hA]
  rcases hx with (h | ⟨h, h2⟩) | ⟨h, h2, (h3 | ⟨h3, h4⟩)⟩
  · simp only [h, if_true]
  · simp only [h, h2, if_true, if_false]
  · simp only [h, h2, h3, if_true, if_false]
  · simp only [h, h2, h3, h4, if_true, if_false]
set_option maxHeartbeats 400000 in
set_option maxRecDepth 20000 in
theorem m3n (hA : ∀ i, ix (ad i) = i) {x y : Int32} (hx : (x < 0 ∨ (¬ x < 0 ∧ 5 ≤ x)) ∨ (¬ x < 0 ∧ ¬ 5 ≤ x ∧ (y < 0 ∨ (¬ y < 0 ∧ 2 ≤ y)))) : pz_C dA (d + 2) 3 [.ref (ad 0), .int x, .int y] (pz_wf ad ix (cw dA ad B E π τ D)) Q = (Q (some (.int 0)) (pz_wf ad ix (cw dA ad B E π τ D))) := by
  rw [e3]
  simp only [pz_o_s, wf_gf hA, wf_gu hA, wf_pf hA, wf_il hA, wf_is hA, wf_rl hA, wf_rs hA, Option.map_some, Option.toList_some, Option.toList_none, List.cons_append, List.nil_append, List.length_cons, List.length_nil, Nat.reduceAdd, Nat.reduceLeDiff, Nat.zero_le, u2_e, Nat.reduceEqDiff, false_and, and_false, true_and, and_true, if_false, if_true, i10, i01, q3_0, q3_1, q3_4, q3_7, q3_8, q3_11, q3_14, q3_15, q3_18, q3_19, q3_20, q3_23, q3_24, q3_27, q3_28z, q3_28o, q3_29, q3_30, q3_33, q3_34, q3_35, q3_35n, q3_36, q3_37, q3_40, q3_41, q3_42, q3_43, q3_44, q3_47, q3_50, q3_50n, q3_52, q3_52n, q3_54, q3_54n, q3_57, q3_57n, q3_59, q3_59n, q3_60, q3_63, q3_66, q3_66n, q3_67, q3_70, q3_70n, q3_71, q3_72z, q3_72o, q3_75, q3_75n, q3_76, q3_77, q3_80, q3_83, q3_84z, q3_84o, m15 hA, m16 hA]
  rcases hx with (h | ⟨h, h2⟩) | ⟨h, h2, (h3 | ⟨h3, h4⟩)⟩
  · simp only [h, if_true]
  · simp only [h, h2, if_true, if_false]
  · simp only [h, h2, h3, if_true, if_false]
  · simp only [h, h2, h3, h4, if_true, if_false]
set_option maxHeartbeats 400000 in
set_option maxRecDepth 20000 in
def b_ask (B : Nat → Nat → Int32) (c : Nat) : Nat → Nat → Int32 := u2 (u2 B 17 c (B 17 c + 1)) 18 c 1
set_option maxHeartbeats 400000 in
theorem m2 (hA : ∀ i, ix (ad i) = i) {n : Nat} (hn : n ≤ 24) (hp : ∀ j, π j < 25) {c s : Nat} (hcl : c < 5) (hs : s < 2) (hc : B 20 0 = nI n) : pz_C dA (d + 2) 2 [.ref (ad 0), .int (nI c), .int (nI s)] (pz_wf ad ix (cw dA ad B E π τ D)) Q = if 4 ≤ B 0 0 - E 25 c then Q (some (.int 1)) (pz_wf ad ix (cw dA ad (pB (b_ask B c)) (pE (b_ask B c) E π [(0, 0), (1, nI c), (2, nI s), (3, B 0 0), (4, B 17 c + 1)]) π τ D)) else Q (some (.int 0)) (pz_wf ad ix (cw dA ad B E π τ D)) := by
  have hx1 : (nI c < 0) = False := by simp only [eq_iff_iff, iff_false]; exact nI_pos (by omega)
  have hx2 : ((5 : Int32) ≤ nI c) = False := lt5 hcl
  have hx3 : (nI s < 0) = False := by simp only [eq_iff_iff, iff_false]; exact nI_pos (by omega)
  have hx4 : ((2 : Int32) ≤ nI s) = False := lt2 hs
  have hc2 : u2 (u2 B 17 c (B 17 c + 1)) 18 c 1 20 0 = nI n := hc
  have hb : u2 (u2 B 17 c (B 17 c + 1)) 18 c 1 = b_ask B c := rfl
  rw [e2]
  simp only [pz_o_s, wf_gf hA, wf_gu hA, wf_pf hA, wf_il hA, wf_is hA, wf_rl hA, wf_rs hA, Option.map_some, Option.toList_some, Option.toList_none, List.cons_append, List.nil_append, List.length_cons, List.length_nil, Nat.reduceAdd, Nat.reduceLeDiff, Nat.zero_le, u2_e, Nat.reduceEqDiff, false_and, and_false, true_and, and_true, if_false, if_true, i10, i01, q2_0, q2_1, q2_4, q2_7, q2_8, q2_11, q2_14, q2_15, q2_18, q2_19, q2_20, q2_21, q2_24, q2_27, q2_30, q2_31z, q2_31o, q2_32, q2_33, q2_36, q2_37, q2_38, q2_38n, q2_39, q2_39n, q2_40, q2_41, q2_44, q2_45, q2_46, q2_49, q2_49n, q2_50, q2_51z, q2_51o, q2_54, q2_55, q2_56, q2_57, q2_58, q2_58n, q2_59, q2_62, q2_65, q2_66z, q2_66o, gu_P, gf_P0, gf_P1, gf_P2, gf_P3, gf_P4, pf_P0, pf_P1, gu_C hcl, gf_C0 hcl, gf_C1 hcl, gf_C2 hcl, gf_C3 hcl, gf_C4 hcl, pf_C0 hcl, pf_C1 hcl, pf_C2 hcl, pf_C3 hcl, pf_C4 hcl, m15 hA, m16 hA, hx1, hx2, hx3, hx4, rl_2 hcl, m65 hA hcl, m25 hA hn hp hc2]
  simp only [hb]
end CO
