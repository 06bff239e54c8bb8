/-! the methods of the reference: updates, acknowledgements, demands -/
theorem tkA_s {D D1 : Nat → Nat → Int32} {r : Nat} {now k cl un g po : Int32} (hz : tkA D r now k cl un g po = some D1) : (k = 1 ∧ g = D 12 r ∧ D1 = u2 (u2 D 9 r (mx (D 9 r) un)) 11 r (mx (D 11 r) po)) ∨ (k = 1 ∧ ¬ g = D 12 r ∧ D1 = b_len D r cl un po g) ∨ (¬ k = 1 ∧ D1 = b_fre D r g) := by
  unfold tkA at hz
  split at hz
  · rename_i h1
    split at hz
    · rename_i h2
      split at hz
      · cases hz
      · split at hz
        · rename_i h3
          split at hz
          · cases hz
            exact Or.inl ⟨h2, i32_anti h3 h1, rfl⟩
          · cases hz
        · rename_i h3
          have h4 : ¬ g = D 12 r := fun q => h3 (by rw [q]; exact i32_rf _)
          split at hz
          · split at hz
            · cases hz
              exact Or.inr (Or.inl ⟨h2, h4, rfl⟩)
            · cases hz
          · cases hz
            exact Or.inr (Or.inl ⟨h2, h4, rfl⟩)
    · rename_i h2
      split at hz
      · split at hz
        · split at hz
          · cases hz
            exact Or.inr (Or.inr ⟨h2, rfl⟩)
          · cases hz
        · cases hz
          exact Or.inr (Or.inr ⟨h2, rfl⟩)
      · split at hz
        · cases hz
          exact Or.inr (Or.inr ⟨h2, rfl⟩)
        · cases hz
  · cases hz
theorem bit01 (x : Int32) : x &&& 1 = 0 ∨ x &&& 1 = 1 := by
  have h := pk_and x (m := 1) 1 (by decide)
  have h2 : x.toBitVec.toNat % 2 ^ 1 = 0 ∨ x.toBitVec.toNat % 2 ^ 1 = 1 := by omega
  rcases h2 with h2 | h2
  · rw [h2] at h
    exact Or.inl h
  · rw [h2] at h
    exact Or.inr h
section XC
variable {dA ad ix : Nat → Nat} {B E D : Nat → Nat → Int32} {π : Nat → Nat} {τ d : Nat} {Q : Option Value → pz_F → Prop}

set_option maxHeartbeats 400000 in
set_option maxRecDepth 20000 in
theorem m109 (hA : ∀ i, ix (ad i) = i) {r : Nat} (hr : r < 12) (h4 : D 22 4 = 0 ∨ D 22 4 = 1 ∨ D 22 4 = 2) : pz_C dA (d + 1) 109 [.ref (ad 100), .int (nI r)] (pz_wf ad ix (cw dA ad B E π τ D)) Q = oq (tkA D r (D 0 0) (D 22 4) (D 22 6) (D 22 7) (D 22 8) (D 22 10)) (fun _ => Q (some (.int 1)) (pz_wf ad ix (cw dA ad B E π τ D))) (Q (some (.int 0)) (pz_wf ad ix (cw dA ad B E π τ D))) := by
  rw [e109]
  simp only [pz_o_s, wf_gf hA, wf_gu hA, wf_pf hA, wf_il hA, wf_is hA, wf_rl hA, wf_rs hA, Option.map_some, Option.toList_some, Option.toList_none, List.cons_append, List.nil_append, List.length_cons, List.length_nil, Nat.reduceAdd, Nat.reduceLeDiff, Nat.zero_le, u2_e, Nat.reduceEqDiff, false_and, and_false, true_and, and_true, if_false, if_true, i10, i01, q109_0, q109_1, q109_4, q109_6, q109_7, q109_8, q109_11, q109_12, q109_13, q109_16, q109_17z, q109_17o, q109_18, q109_19, q109_22, q109_23, q109_24, q109_27, q109_28, q109_31, q109_32, q109_33, q109_36, q109_37, q109_40, q109_41z, q109_41o, q109_42, q109_43, q109_46, q109_47, q109_48, q109_49, q109_52, q109_53, q109_54, q109_57, q109_60, q109_61, q109_64, q109_65z, q109_65o, q109_66, q109_67, q109_70, q109_72, q109_73, q109_74, q109_77, q109_80, q109_81z, q109_81o, q109_82, q109_83, q109_86, q109_88, q109_89, q109_90, q109_93, q109_94, q109_95, q109_98, q109_99, q109_100, q109_103, q109_106, q109_107, q109_110, q109_111, q109_114, q109_115, q109_118, q109_119, q109_120, q109_121, q109_124, q109_125, q109_128, q109_129z, q109_129o, gu_X, gf_X0, gf_X1, gf_X2, gf_X3, gf_X4, gf_X5, gf_X6, gf_X7, gf_X8, gf_X9, gf_X10, gf_X11, gf_X12, gf_X13, gf_X14, gf_X15, gf_X16, gf_X17, gf_X18, gf_X19, gf_X20, gf_X21, gf_X22, gf_X23, pf_X0, pf_X1, pf_X20, il_7 hr, il_8 hr, il_9 hr, il_10 hr, il_11 hr, il_12 hr, il_13 hr, il_14 hr, is_7 hr, is_8 hr, is_9 hr, is_10 hr, is_11 hr, is_12 hr, is_13 hr, is_14 hr, il_22_0, il_22_1, il_22_2, il_22_3, il_22_4, il_22_5, il_22_6, il_22_7, il_22_8, il_22_9, il_22_10, il_22_11, m91 hA hr, tkA, oq_if, oq_s, oq_n]
  rcases h4 with h4 | h4 | h4
  · simp only [h4, if_true, if_false, li_0_1, li_0_2, li_1_0, li_1_2, li_2_0, li_2_1]
  · by_cases h5 : D 22 7 < D 0 0
    · have h6 : ¬ D 0 0 ≤ D 22 7 := Int32.not_le.mpr h5
      simp only [h4, h5, h6, if_true, if_false, li_0_1, li_0_2, li_1_0, li_1_2, li_2_0, li_2_1]
    · have h6 : D 0 0 ≤ D 22 7 := Int32.not_lt.mp h5
      simp only [h4, h5, h6, if_true, if_false, li_0_1, li_0_2, li_1_0, li_1_2, li_2_0, li_2_1]
  · simp only [h4, if_true, if_false, li_0_1, li_0_2, li_1_0, li_1_2, li_2_0, li_2_1]
set_option maxHeartbeats 400000 in
set_option maxRecDepth 20000 in
theorem m108 (hA : ∀ i, ix (ad i) = i) {n : Nat} (hn : n ≤ 24) {s a : Nat} (hs : s < 2) (hr : 6 * s + a < 12) (h3 : D 22 3 = nI a) (hc : D 20 0 = nI n) : pz_C dA (d + 2) 108 [.ref (ad 100), .int (nI s), .int (nI (6 * s + a))] (pz_wf ad ix (cw dA ad B E π τ D)) Q = oq (rcA D (6 * s + a) (D 0 0) (D 22 4) (D 22 6) (D 22 7) (D 22 8) (D 22 10)) (fun D1 => Q none (pz_wf ad ix (cw dA ad B E π τ (akX (u2 D1 6 s (D1 6 s ||| 1 <<< (nI a &&& 31))) s)))) (Q none (pz_wf ad ix (cw dA ad B E π τ D))) := by
  have k1 : ∀ cl un po g, u2 (b_len D (6 * s + a) cl un po g) 6 s (D 6 s ||| 1 <<< (nI a &&& 31)) 20 0 = nI n := fun cl un po g => by rw [u2_k _ _ _ _ (by decide), b_len_k (by omega)]; exact hc
  have k2 : ∀ g, u2 (b_fre D (6 * s + a) g) 6 s (D 6 s ||| 1 <<< (nI a &&& 31)) 20 0 = nI n := fun g => by rw [u2_k _ _ _ _ (by decide), b_fre_k (by omega)]; exact hc
  have k3 : ∀ cl un po g v, u2 (u2 (b_len D (6 * s + a) cl un po g) 9 (6 * s + a) v) 6 s (D 6 s ||| 1 <<< (nI a &&& 31)) 20 0 = nI n := fun cl un po g v => by rw [u2_k _ _ _ _ (by decide), u2_k _ _ _ _ (by decide), b_len_k (by omega)]; exact hc
  rw [e108]
  simp only [pz_o_s, wf_gf hA, wf_gu hA, wf_pf hA, wf_il hA, wf_is hA, wf_rl hA, wf_rs hA, Option.map_some, Option.toList_some, Option.toList_none, List.cons_append, List.nil_append, List.length_cons, List.length_nil, Nat.reduceAdd, Nat.reduceLeDiff, Nat.zero_le, u2_e, Nat.reduceEqDiff, false_and, and_false, true_and, and_true, if_false, if_true, i10, i01, q108_0, q108_1, q108_2, q108_5, q108_6, q108_7, q108_10, q108_11, q108_12, q108_13, q108_16, q108_17, q108_20, q108_22, q108_23, q108_24, q108_27, q108_28, q108_29, q108_32, q108_33, q108_36, q108_38, q108_39, q108_40, q108_43, q108_44, q108_45, q108_48, q108_49, q108_52, q108_53, q108_55, q108_56, q108_59, q108_61, q108_64, q108_65, q108_66, q108_69, q108_70, q108_71, q108_73, q108_74, q108_75, q108_78, q108_79, q108_82, q108_83, q108_86, q108_87, q108_88, q108_91, q108_92, q108_93, q108_95, q108_98, q108_99, q108_100, q108_103, q108_104, q108_105, q108_106, q108_107, q108_108, q108_111, q108_112, q108_113, q108_114, q108_115, q108_116, q108_117, q108_118, q108_121, gu_X, gf_X0, gf_X1, gf_X2, gf_X3, gf_X4, gf_X5, gf_X6, gf_X7, gf_X8, gf_X9, gf_X10, gf_X11, gf_X12, gf_X13, gf_X14, gf_X15, gf_X16, gf_X17, gf_X18, gf_X19, gf_X20, gf_X21, gf_X22, gf_X23, pf_X0, pf_X1, pf_X20, il_7 hr, il_8 hr, il_9 hr, il_10 hr, il_11 hr, il_12 hr, il_13 hr, il_14 hr, is_7 hr, is_8 hr, is_9 hr, is_10 hr, is_11 hr, is_12 hr, is_13 hr, is_14 hr, il_2 hs, il_3 hs, il_4 hs, il_5 hs, il_6 hs, is_2 hs, is_3 hs, is_4 hs, is_5 hs, is_6 hs, il_22_0, il_22_1, il_22_2, il_22_3, il_22_4, il_22_5, il_22_6, il_22_7, il_22_8, il_22_9, il_22_10, il_22_11, h3, m91 hA hr, m107 hA hr, m92 hA, b_len_k (show 6 < 7 ∨ 14 < 6 by decide), b_fre_k (show 6 < 7 ∨ 14 < 6 by decide), b_len_k (show 22 < 7 ∨ 14 < 22 by decide), b_fre_k (show 22 < 7 ∨ 14 < 22 by decide), b_len_9, m106 hA hn hs (k1 _ _ _ _), m106 hA hn hs (k2 _), m106 hA hn hs (k3 _ _ _ _ _), rcA, oq_if, oq_s, oq_n]
  by_cases a1 : D 7 (6 * s + a) = 1 <;> by_cases a2 : D 9 (6 * s + a) < D 0 0 <;> by_cases a3 : D 22 4 = 1 <;> by_cases a4 : D 22 6 = D 8 (6 * s + a) <;> by_cases a5 : D 22 8 = D 12 (6 * s + a) <;> simp only [a1, a2, a3, a4, a5, if_true, if_false, li_0_1, li_0_2, li_1_0, li_1_2, li_2_0, li_2_1]
def tlX (D : Nat → Nat → Int32) (s a : Nat) : Nat → Nat → Int32 := match tuA D s a (D 0 0) (D 22 4) (D 22 6) (D 22 7) (D 22 8) (D 22 10) (D 22 11) with
  | some D1 => akX D1 s
  | none => D
set_option maxHeartbeats 400000 in
set_option maxRecDepth 20000 in
theorem m110 (hA : ∀ i, ix (ad i) = i) {n : Nat} (hn : n ≤ 24) {s a : Nat} (hs : s < 2) (ha : a < 6) (h3 : D 22 3 = nI a) (h4 : D 22 4 = 0 ∨ D 22 4 = 1 ∨ D 22 4 = 2) (hc : D 20 0 = nI n) : pz_C dA (d + 3) 110 [.ref (ad 100), .int (nI s)] (pz_wf ad ix (cw dA ad B E π τ D)) Q = Q none (pz_wf ad ix (cw dA ad B E π τ (tlX D s a))) := by
  have hr : 6 * s + a < 12 := by omega
  have k1 : ∀ cl un po g, b_len D (6 * s + a) cl un po g 20 0 = nI n := fun cl un po g => by rw [b_len_k (by omega)]; exact hc
  have k2 : ∀ g, b_fre D (6 * s + a) g 20 0 = nI n := fun g => by rw [b_fre_k (by omega)]; exact hc
  have k4 : ∀ u v, u2 (u2 D 9 (6 * s + a) u) 11 (6 * s + a) v 20 0 = nI n := fun u v => by rw [u2_k _ _ _ _ (by decide), u2_k _ _ _ _ (by decide)]; exact hc
  rw [e110]
  simp only [pz_o_s, wf_gf hA, wf_gu hA, wf_pf hA, wf_il hA, wf_is hA, wf_rl hA, wf_rs hA, Option.map_some, Option.toList_some, Option.toList_none, List.cons_append, List.nil_append, List.length_cons, List.length_nil, Nat.reduceAdd, Nat.reduceLeDiff, Nat.zero_le, u2_e, Nat.reduceEqDiff, false_and, and_false, true_and, and_true, if_false, if_true, i10, i01, q110_0, q110_2, q110_3, q110_4, q110_5, q110_8, q110_9, q110_10, q110_11, q110_12, q110_13, q110_16, q110_17, q110_18, q110_19, q110_22, q110_23, q110_26, q110_28, q110_29, q110_30, q110_33, q110_34, q110_35, q110_38, q110_39, q110_40, q110_43, q110_44, q110_45, q110_46, q110_49, q110_50, q110_53, q110_54, q110_55, q110_56, q110_59, q110_60, q110_61, q110_62, q110_63, q110_64, q110_67, q110_68, q110_69, q110_70, q110_73, q110_74, q110_75, q110_76, q110_79, q110_82, q110_83, q110_84, q110_87, q110_88, q110_89, q110_90, q110_93, q110_94, q110_97, q110_99, q110_100, q110_101, q110_104, q110_105, q110_106, q110_109, q110_110, q110_113, q110_114, q110_115, q110_118, q110_119, q110_120, q110_121, q110_124, q110_126, q110_127, q110_130, q110_131, q110_132, q110_135, q110_136, q110_137, q110_140, q110_141, q110_142, q110_143, q110_146, q110_148, q110_149, q110_152, q110_153, q110_156, q110_157, q110_158, q110_161, q110_162, q110_163, q110_166, gu_X, gf_X0, gf_X1, gf_X2, gf_X3, gf_X4, gf_X5, gf_X6, gf_X7, gf_X8, gf_X9, gf_X10, gf_X11, gf_X12, gf_X13, gf_X14, gf_X15, gf_X16, gf_X17, gf_X18, gf_X19, gf_X20, gf_X21, gf_X22, gf_X23, pf_X0, pf_X1, pf_X20, il_7 hr, il_8 hr, il_9 hr, il_10 hr, il_11 hr, il_12 hr, il_13 hr, il_14 hr, is_7 hr, is_8 hr, is_9 hr, is_10 hr, is_11 hr, is_12 hr, is_13 hr, is_14 hr, il_2 hs, il_3 hs, il_4 hs, il_5 hs, il_6 hs, is_2 hs, is_3 hs, is_4 hs, is_5 hs, is_6 hs, il_22_0, il_22_1, il_22_2, il_22_3, il_22_4, il_22_5, il_22_6, il_22_7, il_22_8, il_22_9, il_22_10, il_22_11, h3, sx_mul, nI_add, m108 hA hn hs hr h3 hc, m109 hA hr h4, m92 hA, m107 hA hr, m106 hA hn hs (k1 _ _ _ _), m106 hA hn hs (k2 _), m106 hA hn hs (k4 _ _)]
  have hT : oq (tkA D (6 * s + a) (D 0 0) (D 22 4) (D 22 6) (D 22 7) (D 22 8) (D 22 10)) (fun _ => if D 22 4 = 1 then (if D 22 8 = D 12 (6 * s + a) then Q none (pz_wf ad ix (cw dA ad B E π τ (akX (u2 (u2 D 9 (6 * s + a) (mx (D 9 (6 * s + a)) (D 22 7))) 11 (6 * s + a) (mx (D 11 (6 * s + a)) (D 22 10))) s))) else (if D 22 4 = 1 then Q none (pz_wf ad ix (cw dA ad B E π τ (akX (b_len D (6 * s + a) (D 22 6) (D 22 7) (D 22 10) (D 22 8)) s))) else Q none (pz_wf ad ix (cw dA ad B E π τ (akX (b_fre D (6 * s + a) (D 22 8)) s))))) else (if D 22 4 = 1 then Q none (pz_wf ad ix (cw dA ad B E π τ (akX (b_len D (6 * s + a) (D 22 6) (D 22 7) (D 22 10) (D 22 8)) s))) else Q none (pz_wf ad ix (cw dA ad B E π τ (akX (b_fre D (6 * s + a) (D 22 8)) s))))) (Q none (pz_wf ad ix (cw dA ad B E π τ D))) = Q none (pz_wf ad ix (cw dA ad B E π τ (match (tkA D (6 * s + a) (D 0 0) (D 22 4) (D 22 6) (D 22 7) (D 22 8) (D 22 10)) with | some D1 => akX D1 s | none => D))) := by
    generalize hz : (tkA D (6 * s + a) (D 0 0) (D 22 4) (D 22 6) (D 22 7) (D 22 8) (D 22 10)) = z
    cases z with
    | none => rfl
    | some D1 =>
      rcases tkA_s hz with ⟨b1, b2, rfl⟩ | ⟨b1, b2, rfl⟩ | ⟨b1, rfl⟩
      · simp only [oq_s, b1, b2, if_true]
      · simp only [oq_s, b1, b2, if_true, if_false]
      · simp only [oq_s, b1, if_false]
  have hR : oq (rcA D (6 * s + a) (D 0 0) (D 22 4) (D 22 6) (D 22 7) (D 22 8) (D 22 10)) (fun D1 => Q none (pz_wf ad ix (cw dA ad B E π τ (akX (u2 D1 6 s (D1 6 s ||| 1 <<< (nI a &&& 31))) s)))) (Q none (pz_wf ad ix (cw dA ad B E π τ D))) = Q none (pz_wf ad ix (cw dA ad B E π τ (match ((rcA D (6 * s + a) (D 0 0) (D 22 4) (D 22 6) (D 22 7) (D 22 8) (D 22 10)).map (fun B => u2 B 6 s (B 6 s ||| 1 <<< (nI a &&& 31)))) with | some D1 => akX D1 s | none => D))) := by
    generalize hz : (rcA D (6 * s + a) (D 0 0) (D 22 4) (D 22 6) (D 22 7) (D 22 8) (D 22 10)) = z
    cases z with
    | none => rfl
    | some D1 => rfl
  unfold tlX tuA
  by_cases c1 : D 2 s = 4
  · by_cases c2 : D 22 11 = D 4 s
    · rcases bit01 (D 6 s >>> (nI a &&& 31)) with c3 | c3
      · simp only [c1, c2, c3, if_true, if_false, li_0_1, li_1_0]
        exact hR
      · simp only [c1, c2, c3, if_true, if_false, li_0_1, li_1_0]
        exact hT
    · simp only [c1, c2, if_true, if_false]
  · simp only [c1, if_false]
    exact hT
set_option maxHeartbeats 400000 in
set_option maxRecDepth 20000 in
theorem m111 (hA : ∀ i, ix (ad i) = i) {s a : Nat} (hs : s < 2) (ha : a < 6) (h3 : D 22 3 = nI a) : pz_C dA (d + 1) 111 [.ref (ad 100), .int (nI s)] (pz_wf ad ix (cw dA ad B E π τ D)) Q = Q none (pz_wf ad ix (cw dA ad B E π τ (b_ack D (6 * s + a) (D 22 8) (D 22 9) (D 22 10)))) := by
  have hr : 6 * s + a < 12 := by omega
  rw [e111]
  simp only [pz_o_s, wf_gf hA, wf_gu hA, wf_pf hA, wf_il hA, wf_is hA, wf_rl hA, wf_rs hA, Option.map_some, Option.toList_some, Option.toList_none, List.cons_append, List.nil_append, List.length_cons, List.length_nil, Nat.reduceAdd, Nat.reduceLeDiff, Nat.zero_le, u2_e, Nat.reduceEqDiff, false_and, and_false, true_and, and_true, if_false, if_true, i10, i01, q111_0, q111_2, q111_3, q111_4, q111_5, q111_8, q111_9, q111_10, q111_11, q111_12, q111_13, q111_16, q111_17, q111_18, q111_21, q111_22, q111_25, q111_26, q111_27, q111_28, q111_31, q111_33, q111_34, q111_37, q111_38, q111_41, q111_42, q111_43, q111_44, q111_47, q111_49, q111_50, q111_53, q111_54, q111_55, q111_58, q111_59, q111_60z, q111_60o, q111_61, q111_62, q111_65, q111_66, q111_67, q111_68, q111_71, q111_72, q111_75, q111_76, q111_77, q111_80, q111_81, q111_82, q111_83, q111_86, q111_88, q111_89, q111_92, q111_93, q111_94, q111_97, q111_98, q111_99, q111_100, q111_103, q111_104, q111_105, q111_108, gu_X, gf_X0, gf_X1, gf_X2, gf_X3, gf_X4, gf_X5, gf_X6, gf_X7, gf_X8, gf_X9, gf_X10, gf_X11, gf_X12, gf_X13, gf_X14, gf_X15, gf_X16, gf_X17, gf_X18, gf_X19, gf_X20, gf_X21, gf_X22, gf_X23, pf_X0, pf_X1, pf_X20, il_7 hr, il_8 hr, il_9 hr, il_10 hr, il_11 hr, il_12 hr, il_13 hr, il_14 hr, is_7 hr, is_8 hr, is_9 hr, is_10 hr, is_11 hr, is_12 hr, is_13 hr, is_14 hr, il_2 hs, il_3 hs, il_4 hs, il_5 hs, il_6 hs, is_2 hs, is_3 hs, is_4 hs, is_5 hs, is_6 hs, il_22_0, il_22_1, il_22_2, il_22_3, il_22_4, il_22_5, il_22_6, il_22_7, il_22_8, il_22_9, il_22_10, il_22_11, h3, sx_mul, nI_add, m92 hA, m98 hA hr]
  have g1 : (D 12 (6 * s + a) = D 22 8) = (D 22 8 = D 12 (6 * s + a)) := by simp only [eq_iff_iff]; exact ⟨Eq.symm, Eq.symm⟩
  have g2 : (D 13 (6 * s + a) = D 22 9) = (D 22 9 = D 13 (6 * s + a)) := by simp only [eq_iff_iff]; exact ⟨Eq.symm, Eq.symm⟩
  simp only [g1, g2]
  by_cases a1 : D 14 (6 * s + a) = 0 <;> by_cases a2 : D 22 8 = D 12 (6 * s + a) <;> by_cases a3 : D 22 9 = D 13 (6 * s + a) <;> by_cases a4 : D 7 (6 * s + a) = 1 <;> by_cases a5 : D 7 (6 * s + a) = 2 <;> simp [b_ack, a1, a2, a3, a4, a5]
def d_drt (s : Nat) (D : Nat → Nat → Int32) (a : Nat) : Nat → Nat → Int32 := u2 D 14 (6 * s + a) (bi (¬ D 14 (6 * s + a) = 0 ∨ D 22 3 >>> (nI a &&& 31) &&& 1 = 1))
def dmX (D : Nat → Nat → Int32) (s : Nat) : Nat → Nat → Int32 := if lp (d_drt s) 6 0 (u2 D 5 s (D 22 11)) 2 s = 3 then u2 (lp (d_drt s) 6 0 (u2 D 5 s (D 22 11))) 2 s 1 else lp (d_drt s) 6 0 (u2 D 5 s (D 22 11))
set_option maxHeartbeats 400000 in
set_option maxRecDepth 20000 in
theorem i112 (hA : ∀ i, ix (ad i) = i) {s : Nat} (hs : s < 2) {i : Nat} (hi : i < 6) : pz_R dA d 112 15 [.ref (ad 100), .int (nI s), .int (nI i)] [] (pz_wf ad ix (cw dA ad B E π τ D)) Q = pz_R dA d 112 15 [.ref (ad 100), .int (nI s), .int (nI (i + 1))] [] (pz_wf ad ix (cw dA ad B E π τ (d_drt s D i))) Q := by
  rw [q112_15]
  simp only [pz_o_s, wf_gf hA, wf_gu hA, wf_pf hA, wf_il hA, wf_is hA, wf_rl hA, wf_rs hA, Option.map_some, Option.toList_some, Option.toList_none, List.cons_append, List.nil_append, List.length_cons, List.length_nil, Nat.reduceAdd, Nat.reduceLeDiff, Nat.zero_le, u2_e, Nat.reduceEqDiff, false_and, and_false, true_and, and_true, if_false, if_true, i10, i01, q112_0, q112_1, q112_4, q112_5, q112_6, q112_9, q112_11, q112_12, q112_13, q112_14, q112_16, q112_18, q112_21, q112_22, q112_25, q112_27, q112_28, q112_29, q112_30, q112_31, q112_32, q112_35, q112_37, q112_38, q112_39, q112_40, q112_41, q112_42, q112_45, q112_46, q112_49, q112_50, q112_51, q112_52, q112_53, q112_54, q112_55, q112_56, q112_59, q112_60, q112_63, q112_64z, q112_64o, q112_65, q112_68, q112_71, q112_72, q112_75, q112_76, q112_77, q112_78, q112_81, q112_82, q112_85, q112_86, q112_87, q112_88, gu_X, gf_X0, gf_X1, gf_X2, gf_X3, gf_X4, gf_X5, gf_X6, gf_X7, gf_X8, gf_X9, gf_X10, gf_X11, gf_X12, gf_X13, gf_X14, gf_X15, gf_X16, gf_X17, gf_X18, gf_X19, gf_X20, gf_X21, gf_X22, gf_X23, pf_X0, pf_X1, pf_X20, il_22_0, il_22_1, il_22_2, il_22_3, il_22_4, il_22_5, il_22_6, il_22_7, il_22_8, il_22_9, il_22_10, il_22_11, lt6 hi, sx_mul, nI_add, il_14 (show 6 * s + i < 12 by omega), is_14 (show 6 * s + i < 12 by omega), nI_1]
  by_cases a1 : D 14 (6 * s + i) = 0 <;> by_cases a2 : D 22 3 >>> (nI i &&& 31) &&& 1 = 1 <;> simp [d_drt, bi, a1, a2]
set_option maxHeartbeats 400000 in
set_option maxRecDepth 20000 in
theorem x112 (hA : ∀ i, ix (ad i) = i) {s : Nat} (hs : s < 2) : pz_R dA d 112 15 [.ref (ad 100), .int (nI s), .int (nI 6)] [] (pz_wf ad ix (cw dA ad B E π τ D)) Q = (if D 2 s = 3 then Q none (pz_wf ad ix (cw dA ad B E π τ (u2 D 2 s 1))) else Q none (pz_wf ad ix (cw dA ad B E π τ D))) := by
  rw [q112_15]
  simp only [pz_o_s, wf_gf hA, wf_gu hA, wf_pf hA, wf_il hA, wf_is hA, wf_rl hA, wf_rs hA, Option.map_some, Option.toList_some, Option.toList_none, List.cons_append, List.nil_append, List.length_cons, List.length_nil, Nat.reduceAdd, Nat.reduceLeDiff, Nat.zero_le, u2_e, Nat.reduceEqDiff, false_and, and_false, true_and, and_true, if_false, if_true, i10, i01, q112_0, q112_1, q112_4, q112_5, q112_6, q112_9, q112_11, q112_12, q112_13, q112_14, q112_16, q112_18, q112_21, q112_22, q112_25, q112_27, q112_28, q112_29, q112_30, q112_31, q112_32, q112_35, q112_37, q112_38, q112_39, q112_40, q112_41, q112_42, q112_45, q112_46, q112_49, q112_50, q112_51, q112_52, q112_53, q112_54, q112_55, q112_56, q112_59, q112_60, q112_63, q112_64z, q112_64o, q112_65, q112_68, q112_71, q112_72, q112_75, q112_76, q112_77, q112_78, q112_81, q112_82, q112_85, q112_86, q112_87, q112_88, gu_X, gf_X0, gf_X1, gf_X2, gf_X3, gf_X4, gf_X5, gf_X6, gf_X7, gf_X8, gf_X9, gf_X10, gf_X11, gf_X12, gf_X13, gf_X14, gf_X15, gf_X16, gf_X17, gf_X18, gf_X19, gf_X20, gf_X21, gf_X22, gf_X23, pf_X0, pf_X1, pf_X20, il_2 hs, il_3 hs, il_4 hs, il_5 hs, il_6 hs, is_2 hs, is_3 hs, is_4 hs, is_5 hs, is_6 hs, le6]
theorem l112 (hA : ∀ i, ix (ad i) = i) {s : Nat} (hs : s < 2) : ∀ (t i : Nat) (D : Nat → Nat → Int32), i + t = 6 → pz_R dA d 112 15 [.ref (ad 100), .int (nI s), .int (nI i)] [] (pz_wf ad ix (cw dA ad B E π τ D)) Q = (if lp (d_drt s) t i D 2 s = 3 then Q none (pz_wf ad ix (cw dA ad B E π τ (u2 (lp (d_drt s) t i D) 2 s 1))) else Q none (pz_wf ad ix (cw dA ad B E π τ (lp (d_drt s) t i D)))) := by
  intro t
  induction t with
  | zero =>
    intro i D h
    have h : i = 6 := h
    subst h
    exact x112 hA hs
  | succ t ih =>
    intro i D h
    rw [i112 hA hs (by omega), ih (i + 1) _ (by omega)]
    rfl
set_option maxHeartbeats 400000 in
set_option maxRecDepth 20000 in
theorem m112 (hA : ∀ i, ix (ad i) = i) {s : Nat} (hs : s < 2) : pz_C dA d 112 [.ref (ad 100), .int (nI s)] (pz_wf ad ix (cw dA ad B E π τ D)) Q = Q none (pz_wf ad ix (cw dA ad B E π τ (dmX D s))) := by
  rw [e112]
  simp only [pz_o_s, wf_gf hA, wf_gu hA, wf_pf hA, wf_il hA, wf_is hA, wf_rl hA, wf_rs hA, Option.map_some, Option.toList_some, Option.toList_none, List.cons_append, List.nil_append, List.length_cons, List.length_nil, Nat.reduceAdd, Nat.reduceLeDiff, Nat.zero_le, u2_e, Nat.reduceEqDiff, false_and, and_false, true_and, and_true, if_false, if_true, i10, i01, q112_0, q112_1, q112_4, q112_5, q112_6, q112_9, q112_11, q112_12, q112_13, q112_14, q112_16, q112_18, q112_21, q112_22, q112_25, q112_27, q112_28, q112_29, q112_30, q112_31, q112_32, q112_35, q112_37, q112_38, q112_39, q112_40, q112_41, q112_42, q112_45, q112_46, q112_49, q112_50, q112_51, q112_52, q112_53, q112_54, q112_55, q112_56, q112_59, q112_60, q112_63, q112_64z, q112_64o, q112_65, q112_68, q112_71, q112_72, q112_75, q112_76, q112_77, q112_78, q112_81, q112_82, q112_85, q112_86, q112_87, q112_88, gu_X, gf_X0, gf_X1, gf_X2, gf_X3, gf_X4, gf_X5, gf_X6, gf_X7, gf_X8, gf_X9, gf_X10, gf_X11, gf_X12, gf_X13, gf_X14, gf_X15, gf_X16, gf_X17, gf_X18, gf_X19, gf_X20, gf_X21, gf_X22, gf_X23, pf_X0, pf_X1, pf_X20, il_2 hs, il_3 hs, il_4 hs, il_5 hs, il_6 hs, is_2 hs, is_3 hs, is_4 hs, is_5 hs, is_6 hs, il_22_0, il_22_1, il_22_2, il_22_3, il_22_4, il_22_5, il_22_6, il_22_7, il_22_8, il_22_9, il_22_10, il_22_11]
  have h := l112 (dA := dA) (ad := ad) (ix := ix) (B := B) (E := E) (π := π) (τ := τ) (Q := Q) (d := d) hA hs 6 0 (u2 D 5 s (D 22 11)) (by omega)
  rw [nI_0] at h
  rw [h]
  unfold dmX
  by_cases c : lp (d_drt s) 6 0 (u2 D 5 s (D 22 11)) 2 s = 3
  · simp only [c, if_true]
  · simp only [c, if_false]
end XC
