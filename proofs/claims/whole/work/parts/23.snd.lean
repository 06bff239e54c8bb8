/-! the system's own methods: sends -/
def stm (E : Nat → Nat → Int32) (m : Nat) : List (Nat × Int32) → (Nat → Nat → Int32)
  | [] => E
  | q :: l => stm (u2 E m q.1 q.2) m l
/-- what a send makes of the count, and of the messages -/
def pB (B : Nat → Nat → Int32) : Nat → Nat → Int32 := if B 20 0 = 24 then B else u2 B 20 0 (B 20 0 + 1)
def pE (B E : Nat → Nat → Int32) (π : Nat → Nat) (l : List (Nat × Int32)) : Nat → Nat → Int32 := if B 20 0 = 24 then E else stm E (π (B 20 0).toNatClampNeg) l
theorem n24 {n : Nat} (h : n < 24) : ¬ nI n = 24 := by
  intro q
  have h2 : nI n = nI 24 := q
  rw [nI_eq (by omega) (by omega)] at h2
  omega
theorem pB_lt {B : Nat → Nat → Int32} {n : Nat} (h : n < 24) (hc : B 20 0 = nI n) : pB B = u2 B 20 0 (nI (n + 1)) := by
  unfold pB
  rw [hc, if_neg (n24 h), nI_1]
theorem pE_lt {B E : Nat → Nat → Int32} {π : Nat → Nat} {l : List (Nat × Int32)} {n : Nat} (h : n < 24) (hc : B 20 0 = nI n) : pE B E π l = stm E (π n) l := by
  unfold pE
  rw [hc, if_neg (n24 h), nI_clamp (by omega)]
theorem pB_24 {B : Nat → Nat → Int32} (hc : B 20 0 = nI 24) : pB B = B := if_pos hc
theorem pE_24 {B E : Nat → Nat → Int32} {π : Nat → Nat} {l : List (Nat × Int32)} (hc : B 20 0 = nI 24) : pE B E π l = E := if_pos hc
theorem one_sub {s : Nat} (hs : s < 2) : (1 : Int32) - nI s = nI (1 - s) := pk_sub (a := 1) (by omega)
section PM
variable {dA ad ix : Nat → Nat} {B E D : Nat → Nat → Int32} {π : Nat → Nat} {τ d : Nat} {Q : Option Value → pz_F → Prop}

set_option maxHeartbeats 4000000 in
set_option maxRecDepth 20000 in
theorem m15 (hA : ∀ i, ix (ad i) = i) {x : Int32} : pz_C dA d 15 [.int x] (pz_wf ad ix (cw dA ad B E π τ D)) Q = (if x < 0 then Q (some (.int 0)) (pz_wf ad ix (cw dA ad B E π τ D)) else if 2 ≤ x then Q (some (.int 0)) (pz_wf ad ix (cw dA ad B E π τ D)) else Q (some (.int 1)) (pz_wf ad ix (cw dA ad B E π τ D))) := by
  rw [e15]
  simp only [pz_o_s, wf_gf hA, wf_gu hA, wf_pf hA, wf_il hA, wf_is hA, wf_rl hA, wf_rs hA, Option.map_some, Option.toList_some, Option.toList_none, List.cons_append, List.nil_append, List.length_cons, List.length_nil, Nat.reduceAdd, Nat.reduceLeDiff, Nat.zero_le, u2_e, Nat.reduceEqDiff, false_and, and_false, true_and, and_true, if_false, if_true, i10, i01, q15_0, q15_1, q15_4, q15_5, q15_6, q15_9, q15_10, q15_13, q15_14z, q15_14o]
set_option maxHeartbeats 4000000 in
set_option maxRecDepth 20000 in
theorem m16 (hA : ∀ i, ix (ad i) = i) {x : Int32} : pz_C dA d 16 [.int x] (pz_wf ad ix (cw dA ad B E π τ D)) Q = (if x < 0 then Q (some (.int 0)) (pz_wf ad ix (cw dA ad B E π τ D)) else if 5 ≤ x then Q (some (.int 0)) (pz_wf ad ix (cw dA ad B E π τ D)) else Q (some (.int 1)) (pz_wf ad ix (cw dA ad B E π τ D))) := by
  rw [e16]
  simp only [pz_o_s, wf_gf hA, wf_gu hA, wf_pf hA, wf_il hA, wf_is hA, wf_rl hA, wf_rs hA, Option.map_some, Option.toList_some, Option.toList_none, List.cons_append, List.nil_append, List.length_cons, List.length_nil, Nat.reduceAdd, Nat.reduceLeDiff, Nat.zero_le, u2_e, Nat.reduceEqDiff, false_and, and_false, true_and, and_true, if_false, if_true, i10, i01, q16_0, q16_1, q16_4, q16_5, q16_6, q16_9, q16_10, q16_13, q16_14z, q16_14o]
set_option maxHeartbeats 4000000 in
set_option maxRecDepth 20000 in
theorem m17 (hA : ∀ i, ix (ad i) = i) {s : Nat} (hs : s < 2) : pz_C dA d 17 [.ref (ad (10 + s))] (pz_wf ad ix (cw dA ad B E π τ D)) Q = (if B 2 s = 0 then Q (some (.int 1)) (pz_wf ad ix (cw dA ad B E π τ D)) else if B 2 s = 4 then Q (some (.int 1)) (pz_wf ad ix (cw dA ad B E π τ D)) else Q (some (.int 0)) (pz_wf ad ix (cw dA ad B E π τ D))) := by
  rw [e17]
  simp only [pz_o_s, wf_gf hA, wf_gu hA, wf_pf hA, wf_il hA, wf_is hA, wf_rl hA, wf_rs hA, Option.map_some, Option.toList_some, Option.toList_none, List.cons_append, List.nil_append, List.length_cons, List.length_nil, Nat.reduceAdd, Nat.reduceLeDiff, Nat.zero_le, u2_e, Nat.reduceEqDiff, false_and, and_false, true_and, and_true, if_false, if_true, i10, i01, q17_0, q17_1, q17_4, q17_7, q17_8, q17_11, q17_12, q17_15, q17_16, q17_19, q17_20z, q17_20o, gu_S hs, gf_S0 hs, gf_S1 hs, gf_S2 hs, gf_S3 hs, gf_S4 hs, gf_S5 hs, gf_S6 hs, pf_S2 hs, pf_S3 hs, pf_S4 hs, pf_S5 hs, pf_S6 hs]
set_option maxHeartbeats 4000000 in
set_option maxRecDepth 20000 in
theorem m18 (hA : ∀ i, ix (ad i) = i) {s : Nat} (hs : s < 2) : pz_C dA d 18 [.ref (ad 0), .ref (ad (10 + s))] (pz_wf ad ix (cw dA ad B E π τ D)) Q = (Q (some (.ref (ad (10 + (1 - s))))) (pz_wf ad ix (cw dA ad B E π τ D))) := by
  rw [e18]
  simp only [pz_o_s, wf_gf hA, wf_gu hA, wf_pf hA, wf_il hA, wf_is hA, wf_rl hA, wf_rs hA, Option.map_some, Option.toList_some, Option.toList_none, List.cons_append, List.nil_append, List.length_cons, List.length_nil, Nat.reduceAdd, Nat.reduceLeDiff, Nat.zero_le, u2_e, Nat.reduceEqDiff, false_and, and_false, true_and, and_true, if_false, if_true, i10, i01, q18_0, q18_1, q18_4, q18_5, q18_5n, q18_6, q18_9, q18_10, q18_11, q18_11n, gu_P, gf_P0, gf_P1, gf_P2, gf_P3, gf_P4, pf_P0, pf_P1, gu_S hs, gf_S0 hs, gf_S1 hs, gf_S2 hs, gf_S3 hs, gf_S4 hs, gf_S5 hs, gf_S6 hs, pf_S2 hs, pf_S3 hs, pf_S4 hs, pf_S5 hs, pf_S6 hs, one_sub hs, rl_1 (show 1 - s < 2 by omega)]
theorem rl_10 {dA ad : Nat → Nat} {B E D : Nat → Nat → Int32} {π : Nat → Nat} {τ : Nat} : pz_rl dA (cw dA ad B E π τ D) 1 0 = some (.ref (ad 10)) := rl_1 (s := 0) (by decide)
theorem rl_11 {dA ad : Nat → Nat} {B E D : Nat → Nat → Int32} {π : Nat → Nat} {τ : Nat} : pz_rl dA (cw dA ad B E π τ D) 1 1 = some (.ref (ad 11)) := rl_1 (s := 1) (by decide)
theorem gf_S20 {dA ad : Nat → Nat} {B E D : Nat → Nat → Int32} {π : Nat → Nat} {τ : Nat} : pz_gf (cw dA ad B E π τ D) 10 1 2 = some (.int (B 2 0)) := gf_S2 (s := 0) (by decide)
theorem gf_S21 {dA ad : Nat → Nat} {B E D : Nat → Nat → Int32} {π : Nat → Nat} {τ : Nat} : pz_gf (cw dA ad B E π τ D) 11 1 2 = some (.int (B 2 1)) := gf_S2 (s := 1) (by decide)
/-- are the two in contact -/
def ctc (B : Nat → Nat → Int32) : Bool := !decide (B 1 0 = 0) && !decide (B 2 0 = 0) && !decide (B 2 1 = 0)
set_option maxHeartbeats 4000000 in
set_option maxRecDepth 20000 in
theorem m19 (hA : ∀ i, ix (ad i) = i) : pz_C dA d 19 [.ref (ad 0)] (pz_wf ad ix (cw dA ad B E π τ D)) Q = (if ctc B = true then Q (some (.int 1)) (pz_wf ad ix (cw dA ad B E π τ D)) else Q (some (.int 0)) (pz_wf ad ix (cw dA ad B E π τ D))) := by
  rw [e19]
  simp only [pz_o_s, wf_gf hA, wf_gu hA, wf_pf hA, wf_il hA, wf_is hA, wf_rl hA, wf_rs hA, Option.map_some, Option.toList_some, Option.toList_none, List.cons_append, List.nil_append, List.length_cons, List.length_nil, Nat.reduceAdd, Nat.reduceLeDiff, Nat.zero_le, u2_e, Nat.reduceEqDiff, false_and, and_false, true_and, and_true, if_false, if_true, i10, i01, q19_0, q19_1, q19_4, q19_7, q19_8, q19_11, q19_12, q19_13, q19_16, q19_19, q19_20, q19_23, q19_24, q19_25, q19_28, q19_31, q19_32, q19_35, q19_36z, q19_36o, gu_P, gf_P0, gf_P1, gf_P2, gf_P3, gf_P4, pf_P0, pf_P1, rl_10, rl_11, gf_S20, gf_S21]
  by_cases h1 : B 1 0 = 0 <;> by_cases h2 : B 2 0 = 0 <;> by_cases h3 : B 2 1 = 0 <;> simp [ctc, h1, h2, h3]
set_option maxHeartbeats 4000000 in
set_option maxRecDepth 20000 in
theorem m25 (hA : ∀ i, ix (ad i) = i) {n : Nat} (hn : n ≤ 24) (hp : ∀ j, π j < 25) {k f t tk : Int32} (hc : B 20 0 = nI n) : pz_C dA (d + 1) 25 [.ref (ad 0), .int k, .int f, .int t, .int tk] (pz_wf ad ix (cw dA ad B E π τ D)) Q = Q none (pz_wf ad ix (cw dA ad (pB B) (pE B E π [(0, k), (1, f), (2, t), (3, B 0 0), (4, tk)]) π τ D)) := by
  rw [e25]
  rcases Nat.lt_or_ge n 24 with h | h
  · simp only [pz_o_s, wf_gf hA, wf_gu hA, wf_pf hA, wf_il hA, wf_is hA, wf_rl hA, wf_rs hA, Option.map_some, Option.toList_some, Option.toList_none, List.cons_append, List.nil_append, List.length_cons, List.length_nil, Nat.reduceAdd, Nat.reduceLeDiff, Nat.zero_le, u2_e, Nat.reduceEqDiff, false_and, and_false, true_and, and_true, if_false, if_true, i10, i01, q25_0, q25_1, q25_4, q25_5, q25_6, q25_7, q25_8, q25_11, q25_14, q25_14n, q25_16, q25_16n, q25_18, q25_18n, q25_21, q25_21n, q25_23, q25_25, q25_28, gu_P, gf_P0, gf_P1, gf_P2, gf_P3, gf_P4, pf_P0, pf_P1, gu_L, gf_L0, gf_L1, gf_L2, gu_M (hp n), gf_M0 (hp n), gf_M1 (hp n), gf_M2 (hp n), gf_M3 (hp n), gf_M4 (hp n), gf_M5 (hp n), gf_M6 (hp n), gf_M7 (hp n), gf_M8 (hp n), gf_M9 (hp n), gf_M10 (hp n), gf_M11 (hp n), gf_M12 (hp n), gf_M13 (hp n), gf_M14 (hp n), pf_M0 (hp n), pf_M1 (hp n), pf_M2 (hp n), pf_M3 (hp n), pf_M4 (hp n), pf_M5 (hp n), pf_M6 (hp n), pf_M7 (hp n), pf_M8 (hp n), pf_M9 (hp n), pf_M10 (hp n), pf_M11 (hp n), pf_M12 (hp n), pf_M13 (hp n), pf_M14 (hp n), m74 hA h hc (hp n)]
    rw [pB_lt h hc, pE_lt h hc]
    rfl
  · have h9 : n = 24 := by omega
    subst h9
    simp only [pz_o_s, wf_gf hA, wf_gu hA, wf_pf hA, wf_il hA, wf_is hA, wf_rl hA, wf_rs hA, Option.map_some, Option.toList_some, Option.toList_none, List.cons_append, List.nil_append, List.length_cons, List.length_nil, Nat.reduceAdd, Nat.reduceLeDiff, Nat.zero_le, u2_e, Nat.reduceEqDiff, false_and, and_false, true_and, and_true, if_false, if_true, i10, i01, q25_0, q25_1, q25_4, q25_5, q25_6, q25_7, q25_8, q25_11, q25_14, q25_14n, q25_16, q25_16n, q25_18, q25_18n, q25_21, q25_21n, q25_23, q25_25, q25_28, gu_P, gf_P0, gf_P1, gf_P2, gf_P3, gf_P4, pf_P0, pf_P1, gu_L, gf_L0, gf_L1, gf_L2, m74f hA hc, pB_24 hc, pE_24 hc]
set_option maxHeartbeats 4000000 in
set_option maxRecDepth 20000 in
theorem m26 (hA : ∀ i, ix (ad i) = i) {n : Nat} (hn : n ≤ 24) (hp : ∀ j, π j < 25) {m : Nat} (hm : m < 25) {a u : Int32} (hc : B 20 0 = nI n) : pz_C dA (d + 1) 26 [.ref (ad 0), .ref (ad (60 + m)), .int a, .int u] (pz_wf ad ix (cw dA ad B E π τ D)) Q = Q none (pz_wf ad ix (cw dA ad (pB B) (pE B E π [(0, 1), (1, E m 2), (2, E m 1), (3, B 0 0), (4, E m 4), (5, a), (8, u)]) π τ D)) := by
  rw [e26]
  rcases Nat.lt_or_ge n 24 with h | h
  · simp only [pz_o_s, wf_gf hA, wf_gu hA, wf_pf hA, wf_il hA, wf_is hA, wf_rl hA, wf_rs hA, Option.map_some, Option.toList_some, Option.toList_none, List.cons_append, List.nil_append, List.length_cons, List.length_nil, Nat.reduceAdd, Nat.reduceLeDiff, Nat.zero_le, u2_e, Nat.reduceEqDiff, false_and, and_false, true_and, and_true, if_false, if_true, i10, i01, q26_0, q26_1, q26_4, q26_5, q26_5n, q26_6, q26_9, q26_9n, q26_10, q26_13, q26_14, q26_17, q26_20, q26_20n, q26_22, q26_22n, q26_24, q26_24n, q26_27, q26_27n, q26_29, q26_29n, q26_30, q26_33, q26_36, q26_36n, q26_38, q26_39, q26_42, q26_42n, q26_44, q26_45, q26_48, gu_P, gf_P0, gf_P1, gf_P2, gf_P3, gf_P4, pf_P0, pf_P1, gu_L, gf_L0, gf_L1, gf_L2, gu_M (hp n), gf_M0 (hp n), gf_M1 (hp n), gf_M2 (hp n), gf_M3 (hp n), gf_M4 (hp n), gf_M5 (hp n), gf_M6 (hp n), gf_M7 (hp n), gf_M8 (hp n), gf_M9 (hp n), gf_M10 (hp n), gf_M11 (hp n), gf_M12 (hp n), gf_M13 (hp n), gf_M14 (hp n), pf_M0 (hp n), pf_M1 (hp n), pf_M2 (hp n), pf_M3 (hp n), pf_M4 (hp n), pf_M5 (hp n), pf_M6 (hp n), pf_M7 (hp n), pf_M8 (hp n), pf_M9 (hp n), pf_M10 (hp n), pf_M11 (hp n), pf_M12 (hp n), pf_M13 (hp n), pf_M14 (hp n), m74 hA h hc (hp n), gu_M hm, gf_M0 hm, gf_M1 hm, gf_M2 hm, gf_M3 hm, gf_M4 hm, gf_M5 hm, gf_M6 hm, gf_M7 hm, gf_M8 hm, gf_M9 hm, gf_M10 hm, gf_M11 hm, gf_M12 hm, gf_M13 hm, gf_M14 hm]
    rw [pB_lt h hc, pE_lt h hc]
    rfl
  · have h9 : n = 24 := by omega
    subst h9
    simp only [pz_o_s, wf_gf hA, wf_gu hA, wf_pf hA, wf_il hA, wf_is hA, wf_rl hA, wf_rs hA, Option.map_some, Option.toList_some, Option.toList_none, List.cons_append, List.nil_append, List.length_cons, List.length_nil, Nat.reduceAdd, Nat.reduceLeDiff, Nat.zero_le, u2_e, Nat.reduceEqDiff, false_and, and_false, true_and, and_true, if_false, if_true, i10, i01, q26_0, q26_1, q26_4, q26_5, q26_5n, q26_6, q26_9, q26_9n, q26_10, q26_13, q26_14, q26_17, q26_20, q26_20n, q26_22, q26_22n, q26_24, q26_24n, q26_27, q26_27n, q26_29, q26_29n, q26_30, q26_33, q26_36, q26_36n, q26_38, q26_39, q26_42, q26_42n, q26_44, q26_45, q26_48, gu_P, gf_P0, gf_P1, gf_P2, gf_P3, gf_P4, pf_P0, pf_P1, gu_L, gf_L0, gf_L1, gf_L2, m74f hA hc, pB_24 hc, pE_24 hc, gu_M hm, gf_M0 hm, gf_M1 hm, gf_M2 hm, gf_M3 hm, gf_M4 hm, gf_M5 hm, gf_M6 hm, gf_M7 hm, gf_M8 hm, gf_M9 hm, gf_M10 hm, gf_M11 hm, gf_M12 hm, gf_M13 hm, gf_M14 hm]
set_option maxHeartbeats 4000000 in
set_option maxRecDepth 20000 in
theorem m27 (hA : ∀ i, ix (ad i) = i) {n : Nat} (hn : n ≤ 24) (hp : ∀ j, π j < 25) {m : Nat} (hm : m < 25) (hc : B 20 0 = nI n) : pz_C dA (d + 1) 27 [.ref (ad 0), .ref (ad (60 + m))] (pz_wf ad ix (cw dA ad B E π τ D)) Q = Q none (pz_wf ad ix (cw dA ad (pB B) (pE B E π [(0, 5), (1, E m 2), (2, E m 1), (3, B 0 0), (5, E m 5), (9, E m 9), (10, E m 10), (11, E m 11)]) π τ D)) := by
  rw [e27]
  rcases Nat.lt_or_ge n 24 with h | h
  · simp only [pz_o_s, wf_gf hA, wf_gu hA, wf_pf hA, wf_il hA, wf_is hA, wf_rl hA, wf_rs hA, Option.map_some, Option.toList_some, Option.toList_none, List.cons_append, List.nil_append, List.length_cons, List.length_nil, Nat.reduceAdd, Nat.reduceLeDiff, Nat.zero_le, u2_e, Nat.reduceEqDiff, false_and, and_false, true_and, and_true, if_false, if_true, i10, i01, q27_0, q27_1, q27_4, q27_5, q27_5n, q27_6, q27_9, q27_9n, q27_10, q27_13, q27_14, q27_17, q27_20, q27_20n, q27_21, q27_21n, q27_22, q27_22n, q27_25, q27_25n, q27_26, q27_26n, q27_27, q27_30, q27_33, q27_33n, q27_34, q27_34n, q27_35, q27_38, q27_41, q27_41n, q27_42, q27_42n, q27_43, q27_46, q27_49, q27_49n, q27_50, q27_50n, q27_51, q27_54, q27_57, gu_P, gf_P0, gf_P1, gf_P2, gf_P3, gf_P4, pf_P0, pf_P1, gu_L, gf_L0, gf_L1, gf_L2, gu_M (hp n), gf_M0 (hp n), gf_M1 (hp n), gf_M2 (hp n), gf_M3 (hp n), gf_M4 (hp n), gf_M5 (hp n), gf_M6 (hp n), gf_M7 (hp n), gf_M8 (hp n), gf_M9 (hp n), gf_M10 (hp n), gf_M11 (hp n), gf_M12 (hp n), gf_M13 (hp n), gf_M14 (hp n), pf_M0 (hp n), pf_M1 (hp n), pf_M2 (hp n), pf_M3 (hp n), pf_M4 (hp n), pf_M5 (hp n), pf_M6 (hp n), pf_M7 (hp n), pf_M8 (hp n), pf_M9 (hp n), pf_M10 (hp n), pf_M11 (hp n), pf_M12 (hp n), pf_M13 (hp n), pf_M14 (hp n), m74 hA h hc (hp n), gu_M hm, gf_M0 hm, gf_M1 hm, gf_M2 hm, gf_M3 hm, gf_M4 hm, gf_M5 hm, gf_M6 hm, gf_M7 hm, gf_M8 hm, gf_M9 hm, gf_M10 hm, gf_M11 hm, gf_M12 hm, gf_M13 hm, gf_M14 hm]
    rw [pB_lt h hc, pE_lt h hc]
    rfl
  · have h9 : n = 24 := by omega
    subst h9
    simp only [pz_o_s, wf_gf hA, wf_gu hA, wf_pf hA, wf_il hA, wf_is hA, wf_rl hA, wf_rs hA, Option.map_some, Option.toList_some, Option.toList_none, List.cons_append, List.nil_append, List.length_cons, List.length_nil, Nat.reduceAdd, Nat.reduceLeDiff, Nat.zero_le, u2_e, Nat.reduceEqDiff, false_and, and_false, true_and, and_true, if_false, if_true, i10, i01, q27_0, q27_1, q27_4, q27_5, q27_5n, q27_6, q27_9, q27_9n, q27_10, q27_13, q27_14, q27_17, q27_20, q27_20n, q27_21, q27_21n, q27_22, q27_22n, q27_25, q27_25n, q27_26, q27_26n, q27_27, q27_30, q27_33, q27_33n, q27_34, q27_34n, q27_35, q27_38, q27_41, q27_41n, q27_42, q27_42n, q27_43, q27_46, q27_49, q27_49n, q27_50, q27_50n, q27_51, q27_54, q27_57, gu_P, gf_P0, gf_P1, gf_P2, gf_P3, gf_P4, pf_P0, pf_P1, gu_L, gf_L0, gf_L1, gf_L2, m74f hA hc, pB_24 hc, pE_24 hc, gu_M hm, gf_M0 hm, gf_M1 hm, gf_M2 hm, gf_M3 hm, gf_M4 hm, gf_M5 hm, gf_M6 hm, gf_M7 hm, gf_M8 hm, gf_M9 hm, gf_M10 hm, gf_M11 hm, gf_M12 hm, gf_M13 hm, gf_M14 hm]
set_option maxHeartbeats 4000000 in
set_option maxRecDepth 20000 in
theorem m24 (hA : ∀ i, ix (ad i) = i) {n : Nat} (hn : n ≤ 24) (hp : ∀ j, π j < 25) {s : Nat} (hs : s < 2) (hc : B 20 0 = nI n) : pz_C dA (d + 1) 24 [.ref (ad 0), .ref (ad (10 + s))] (pz_wf ad ix (cw dA ad B E π τ D)) Q = Q none (pz_wf ad ix (cw dA ad (pB B) (pE B E π [(0, 6), (1, nI s), (2, nI (1 - s)), (3, B 0 0), (13, 63 &&& (B 6 s ^^^ -1)), (12, B 4 s)]) π τ D)) := by
  rw [e24]
  rcases Nat.lt_or_ge n 24 with h | h
  · simp only [pz_o_s, wf_gf hA, wf_gu hA, wf_pf hA, wf_il hA, wf_is hA, wf_rl hA, wf_rs hA, Option.map_some, Option.toList_some, Option.toList_none, List.cons_append, List.nil_append, List.length_cons, List.length_nil, Nat.reduceAdd, Nat.reduceLeDiff, Nat.zero_le, u2_e, Nat.reduceEqDiff, false_and, and_false, true_and, and_true, if_false, if_true, i10, i01, q24_0, q24_1, q24_4, q24_6, q24_6n, q24_7, q24_10, q24_11, q24_11n, q24_12, q24_15, q24_16, q24_17, q24_20, q24_23, q24_23n, q24_24, q24_24n, q24_25, q24_25n, q24_28, q24_28n, q24_29, q24_31, q24_31n, q24_32, q24_35, q24_36, q24_37, q24_38, q24_41, q24_41n, q24_42, q24_42n, q24_43, q24_46, q24_49, gu_P, gf_P0, gf_P1, gf_P2, gf_P3, gf_P4, pf_P0, pf_P1, gu_L, gf_L0, gf_L1, gf_L2, gu_M (hp n), gf_M0 (hp n), gf_M1 (hp n), gf_M2 (hp n), gf_M3 (hp n), gf_M4 (hp n), gf_M5 (hp n), gf_M6 (hp n), gf_M7 (hp n), gf_M8 (hp n), gf_M9 (hp n), gf_M10 (hp n), gf_M11 (hp n), gf_M12 (hp n), gf_M13 (hp n), gf_M14 (hp n), pf_M0 (hp n), pf_M1 (hp n), pf_M2 (hp n), pf_M3 (hp n), pf_M4 (hp n), pf_M5 (hp n), pf_M6 (hp n), pf_M7 (hp n), pf_M8 (hp n), pf_M9 (hp n), pf_M10 (hp n), pf_M11 (hp n), pf_M12 (hp n), pf_M13 (hp n), pf_M14 (hp n), m74 hA h hc (hp n), gu_S hs, gf_S0 hs, gf_S1 hs, gf_S2 hs, gf_S3 hs, gf_S4 hs, gf_S5 hs, gf_S6 hs, one_sub hs]
    rw [pB_lt h hc, pE_lt h hc]
    rfl
  · have h9 : n = 24 := by omega
    subst h9
    simp only [pz_o_s, wf_gf hA, wf_gu hA, wf_pf hA, wf_il hA, wf_is hA, wf_rl hA, wf_rs hA, Option.map_some, Option.toList_some, Option.toList_none, List.cons_append, List.nil_append, List.length_cons, List.length_nil, Nat.reduceAdd, Nat.reduceLeDiff, Nat.zero_le, u2_e, Nat.reduceEqDiff, false_and, and_false, true_and, and_true, if_false, if_true, i10, i01, q24_0, q24_1, q24_4, q24_6, q24_6n, q24_7, q24_10, q24_11, q24_11n, q24_12, q24_15, q24_16, q24_17, q24_20, q24_23, q24_23n, q24_24, q24_24n, q24_25, q24_25n, q24_28, q24_28n, q24_29, q24_31, q24_31n, q24_32, q24_35, q24_36, q24_37, q24_38, q24_41, q24_41n, q24_42, q24_42n, q24_43, q24_46, q24_49, gu_P, gf_P0, gf_P1, gf_P2, gf_P3, gf_P4, pf_P0, pf_P1, gu_L, gf_L0, gf_L1, gf_L2, m74f hA hc, pB_24 hc, pE_24 hc, gu_S hs, gf_S0 hs, gf_S1 hs, gf_S2 hs, gf_S3 hs, gf_S4 hs, gf_S5 hs, gf_S6 hs, one_sub hs]
set_option maxHeartbeats 4000000 in
set_option maxRecDepth 20000 in
theorem m23 (hA : ∀ i, ix (ad i) = i) {n : Nat} (hn : n ≤ 24) (hp : ∀ j, π j < 25) {s a : Nat} (hs : s < 2) (ha : a < 6) (hc : B 20 0 = nI n) : pz_C dA (d + 1) 23 [.ref (ad 0), .ref (ad (10 + s)), .int (nI a)] (pz_wf ad ix (cw dA ad B E π τ D)) Q = Q none (pz_wf ad ix (cw dA ad (pB B) (pE B E π [(0, 4), (1, nI s), (2, nI (1 - s)), (3, B 0 0), (5, nI a), (6, B 7 (6 * s + a)), (7, B 8 (6 * s + a)), (8, B 9 (6 * s + a)), (9, B 12 (6 * s + a)), (10, B 13 (6 * s + a)), (11, B 0 0 + 20), (12, B 5 s)]) π τ D)) := by
  rw [e23]
  rcases Nat.lt_or_ge n 24 with h | h
  · simp only [pz_o_s, wf_gf hA, wf_gu hA, wf_pf hA, wf_il hA, wf_is hA, wf_rl hA, wf_rs hA, Option.map_some, Option.toList_some, Option.toList_none, List.cons_append, List.nil_append, List.length_cons, List.length_nil, Nat.reduceAdd, Nat.reduceLeDiff, Nat.zero_le, u2_e, Nat.reduceEqDiff, false_and, and_false, true_and, and_true, if_false, if_true, i10, i01, q23_0, q23_1, q23_4, q23_5, q23_5n, q23_6, q23_9, q23_10, q23_10n, q23_11, q23_14, q23_15, q23_16, q23_19, q23_22, q23_22n, q23_23, q23_23n, q23_24, q23_24n, q23_27, q23_27n, q23_28, q23_31, q23_32, q23_33, q23_33n, q23_35, q23_35n, q23_36, q23_37, q23_40, q23_40n, q23_41, q23_41n, q23_43, q23_46, q23_49, q23_49n, q23_50, q23_50n, q23_52, q23_55, q23_58, q23_58n, q23_59, q23_59n, q23_61, q23_64, q23_67, q23_67n, q23_68, q23_68n, q23_70, q23_73, q23_76, q23_76n, q23_77, q23_77n, q23_79, q23_82, q23_85, q23_85n, q23_86, q23_87, q23_90, q23_92, q23_93, q23_96, q23_96n, q23_97, q23_97n, q23_98, q23_101, q23_104, gu_P, gf_P0, gf_P1, gf_P2, gf_P3, gf_P4, pf_P0, pf_P1, gu_L, gf_L0, gf_L1, gf_L2, gu_M (hp n), gf_M0 (hp n), gf_M1 (hp n), gf_M2 (hp n), gf_M3 (hp n), gf_M4 (hp n), gf_M5 (hp n), gf_M6 (hp n), gf_M7 (hp n), gf_M8 (hp n), gf_M9 (hp n), gf_M10 (hp n), gf_M11 (hp n), gf_M12 (hp n), gf_M13 (hp n), gf_M14 (hp n), pf_M0 (hp n), pf_M1 (hp n), pf_M2 (hp n), pf_M3 (hp n), pf_M4 (hp n), pf_M5 (hp n), pf_M6 (hp n), pf_M7 (hp n), pf_M8 (hp n), pf_M9 (hp n), pf_M10 (hp n), pf_M11 (hp n), pf_M12 (hp n), pf_M13 (hp n), pf_M14 (hp n), m74 hA h hc (hp n), gu_S hs, gf_S0 hs, gf_S1 hs, gf_S2 hs, gf_S3 hs, gf_S4 hs, gf_S5 hs, gf_S6 hs, one_sub hs, rl_12 hs ha, gu_R (show 6 * s + a < 12 by omega), gf_R0 (show 6 * s + a < 12 by omega), gf_R1 (show 6 * s + a < 12 by omega), gf_R2 (show 6 * s + a < 12 by omega), gf_R3 (show 6 * s + a < 12 by omega), gf_R4 (show 6 * s + a < 12 by omega), gf_R5 (show 6 * s + a < 12 by omega), gf_R6 (show 6 * s + a < 12 by omega), gf_R7 (show 6 * s + a < 12 by omega)]
    rw [pB_lt h hc, pE_lt h hc]
    rfl
  · have h9 : n = 24 := by omega
    subst h9
    simp only [pz_o_s, wf_gf hA, wf_gu hA, wf_pf hA, wf_il hA, wf_is hA, wf_rl hA, wf_rs hA, Option.map_some, Option.toList_some, Option.toList_none, List.cons_append, List.nil_append, List.length_cons, List.length_nil, Nat.reduceAdd, Nat.reduceLeDiff, Nat.zero_le, u2_e, Nat.reduceEqDiff, false_and, and_false, true_and, and_true, if_false, if_true, i10, i01, q23_0, q23_1, q23_4, q23_5, q23_5n, q23_6, q23_9, q23_10, q23_10n, q23_11, q23_14, q23_15, q23_16, q23_19, q23_22, q23_22n, q23_23, q23_23n, q23_24, q23_24n, q23_27, q23_27n, q23_28, q23_31, q23_32, q23_33, q23_33n, q23_35, q23_35n, q23_36, q23_37, q23_40, q23_40n, q23_41, q23_41n, q23_43, q23_46, q23_49, q23_49n, q23_50, q23_50n, q23_52, q23_55, q23_58, q23_58n, q23_59, q23_59n, q23_61, q23_64, q23_67, q23_67n, q23_68, q23_68n, q23_70, q23_73, q23_76, q23_76n, q23_77, q23_77n, q23_79, q23_82, q23_85, q23_85n, q23_86, q23_87, q23_90, q23_92, q23_93, q23_96, q23_96n, q23_97, q23_97n, q23_98, q23_101, q23_104, gu_P, gf_P0, gf_P1, gf_P2, gf_P3, gf_P4, pf_P0, pf_P1, gu_L, gf_L0, gf_L1, gf_L2, m74f hA hc, pB_24 hc, pE_24 hc, gu_S hs, gf_S0 hs, gf_S1 hs, gf_S2 hs, gf_S3 hs, gf_S4 hs, gf_S5 hs, gf_S6 hs, one_sub hs, rl_12 hs ha, gu_R (show 6 * s + a < 12 by omega), gf_R0 (show 6 * s + a < 12 by omega), gf_R1 (show 6 * s + a < 12 by omega), gf_R2 (show 6 * s + a < 12 by omega), gf_R3 (show 6 * s + a < 12 by omega), gf_R4 (show 6 * s + a < 12 by omega), gf_R5 (show 6 * s + a < 12 by omega), gf_R6 (show 6 * s + a < 12 by omega), gf_R7 (show 6 * s + a < 12 by omega)]
end PM
