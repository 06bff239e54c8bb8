/-! the methods of the list -/
theorem nle_nI {a b : Nat} (h : b < a) (ha : a < 2 ^ 31) : (nI a ≤ nI b) = False := by
  simp only [eq_iff_iff, iff_false]
  exact nI_ge h ha
theorem le_nI {a b : Nat} (h : a ≤ b) (hb : b < 2 ^ 31) : (nI a ≤ nI b) = True := by
  simp only [eq_iff_iff, iff_true]
  exact nI_le h hb
theorem nI_p1 (n : Nat) : nI (n + 1) - 1 = nI n := nI_pred n
def bi (c : Prop) [Decidable c] : Int32 := if c then 1 else 0
/-- what the loop of take makes of the rows, from i + 1 on, t times -/
def shf : Nat → Nat → (Nat → Nat) → (Nat → Nat)
  | 0, _, π => π
  | t + 1, i, π => shf t (i + 1) (va_up π i (π (i + 1)))
/-- what the loop that marks makes of the messages -/
def mrk (π : Nat → Nat) (v : (Nat → Nat → Int32) → Nat → Int32) : Nat → Nat → (Nat → Nat → Int32) → (Nat → Nat → Int32)
  | 0, _, E => E
  | t + 1, i, E => mrk π v t (i + 1) (u2 E (π i) 14 (v E (π i)))
def swp (π : Nat → Nat) (i j : Nat) : Nat → Nat := va_up (va_up π i (π j)) j (π i)
/-- what the loop that removes makes of the rows, and how many are kept -/
def rmv (E : Nat → Nat → Int32) : Nat → Nat → Nat → (Nat → Nat) → (Nat → Nat) × Nat
  | 0, _, kp, π => (π, kp)
  | t + 1, i, kp, π => if E (π i) 14 = 0 then rmv E t (i + 1) (kp + 1) (swp π kp i) else rmv E t (i + 1) kp π
section LM
variable {dA ad ix : Nat → Nat} {B E D : Nat → Nat → Int32} {π : Nat → Nat} {τ d : Nat} {Q : Option Value → pz_F → Prop}

set_option maxHeartbeats 4000000 in
set_option maxRecDepth 20000 in
theorem m73 (hA : ∀ i, ix (ad i) = i) {x : Int32} : pz_C dA d 73 [.ref (ad 3), .int x] (pz_wf ad ix (cw dA ad B E π τ D)) Q = (if x < 0 then Q (some (.int 0)) (pz_wf ad ix (cw dA ad B E π τ D)) else if B 20 0 ≤ x then Q (some (.int 0)) (pz_wf ad ix (cw dA ad B E π τ D)) else Q (some (.int 1)) (pz_wf ad ix (cw dA ad B E π τ D))) := by
  rw [e73]
  simp only [pz_o_s, wf_gf hA, wf_gu hA, wf_pf hA, wf_il hA, wf_is hA, wf_rl hA, wf_rs hA, Option.map_some, Option.toList_some, Option.toList_none, List.cons_append, List.nil_append, List.length_cons, List.length_nil, Nat.reduceAdd, Nat.reduceLeDiff, Nat.zero_le, u2_e, Nat.reduceEqDiff, false_and, and_false, true_and, and_true, if_false, if_true, i10, i01, q73_0, q73_1, q73_4, q73_5, q73_6, q73_9, q73_12, q73_13, q73_16, q73_17z, q73_17o, gu_L, gf_L0, gf_L1, gf_L2, pf_L1, pf_L2]
set_option maxHeartbeats 4000000 in
set_option maxRecDepth 20000 in
theorem m74f (hA : ∀ i, ix (ad i) = i) {a b c e : Int32} (hc : B 20 0 = nI 24) : pz_C dA d 74 [.ref (ad 3), .int a, .int b, .int c, .int e] (pz_wf ad ix (cw dA ad B E π τ D)) Q = (Q (some .null) (pz_wf ad ix (cw dA ad B E π τ D))) := by
  rw [e74]
  simp only [pz_o_s, wf_gf hA, wf_gu hA, wf_pf hA, wf_il hA, wf_is hA, wf_rl hA, wf_rs hA, Option.map_some, Option.toList_some, Option.toList_none, List.cons_append, List.nil_append, List.length_cons, List.length_nil, Nat.reduceAdd, Nat.reduceLeDiff, Nat.zero_le, u2_e, Nat.reduceEqDiff, false_and, and_false, true_and, and_true, if_false, if_true, i10, i01, q74_0, q74_1, q74_4, q74_6, q74_9, q74_10, q74_10n, q74_11, q74_12, q74_15, q74_16, q74_19, q74_20, q74_20n, q74_22, q74_23, q74_24, q74_27, q74_28, q74_29, q74_32, q74_32n, q74_34, q74_35, q74_38, q74_38n, q74_40, q74_41, q74_44, q74_44n, q74_46, q74_47, q74_50, q74_50n, q74_52, q74_54, q74_57, q74_57n, q74_59, q74_59n, gu_L, gf_L0, gf_L1, gf_L2, pf_L1, pf_L2, hc, show ((24 : Int32) ≤ nI 24) = True by decide, show (nI 24 < (24 : Int32)) = False by decide]
set_option maxHeartbeats 4000000 in
set_option maxRecDepth 20000 in
theorem m74 (hA : ∀ i, ix (ad i) = i) {a b c e : Int32} {n : Nat} (hn : n < 24) (hc : B 20 0 = nI n) (hp : π n < 25) : pz_C dA d 74 [.ref (ad 3), .int a, .int b, .int c, .int e] (pz_wf ad ix (cw dA ad B E π τ D)) Q = (Q (some (.ref (ad (60 + π n)))) (pz_wf ad ix (cw dA ad (u2 B 20 0 (nI (n + 1))) (u2 (u2 (u2 (u2 E (π n) 0 a) (π n) 1 b) (π n) 2 c) (π n) 3 e) π τ D))) := by
  rw [e74]
  simp only [pz_o_s, wf_gf hA, wf_gu hA, wf_pf hA, wf_il hA, wf_is hA, wf_rl hA, wf_rs hA, Option.map_some, Option.toList_some, Option.toList_none, List.cons_append, List.nil_append, List.length_cons, List.length_nil, Nat.reduceAdd, Nat.reduceLeDiff, Nat.zero_le, u2_e, Nat.reduceEqDiff, false_and, and_false, true_and, and_true, if_false, if_true, i10, i01, q74_0, q74_1, q74_4, q74_6, q74_9, q74_10, q74_10n, q74_11, q74_12, q74_15, q74_16, q74_19, q74_20, q74_20n, q74_22, q74_23, q74_24, q74_27, q74_28, q74_29, q74_32, q74_32n, q74_34, q74_35, q74_38, q74_38n, q74_40, q74_41, q74_44, q74_44n, q74_46, q74_47, q74_50, q74_50n, q74_52, q74_54, q74_57, q74_57n, q74_59, q74_59n, gu_L, gf_L0, gf_L1, gf_L2, pf_L1, pf_L2, gu_M hp, gf_M0 hp, gf_M1 hp, gf_M2 hp, gf_M3 hp, gf_M4 hp, gf_M5 hp, gf_M6 hp, gf_M7 hp, gf_M8 hp, gf_M9 hp, gf_M10 hp, gf_M11 hp, gf_M12 hp, gf_M13 hp, gf_M14 hp, pf_M0 hp, pf_M1 hp, pf_M2 hp, pf_M3 hp, pf_M4 hp, pf_M5 hp, pf_M6 hp, pf_M7 hp, pf_M8 hp, pf_M9 hp, pf_M10 hp, pf_M11 hp, pf_M12 hp, pf_M13 hp, pf_M14 hp, hc, rl_4 hn, nI_1, show (nI n < (24 : Int32)) = True from by simp only [eq_iff_iff, iff_true]; exact nI_lt (b := 24) hn (by decide)]
set_option maxHeartbeats 4000000 in
set_option maxRecDepth 20000 in
theorem m79 (hA : ∀ i, ix (ad i) = i) {i j : Nat} (hi : i < 24) (hj : j < 24) (hp : π i < 25) (hq : π j < 25) : pz_C dA d 79 [.ref (ad 3), .int (nI i), .int (nI j)] (pz_wf ad ix (cw dA ad B E π τ D)) Q = (Q none (pz_wf ad ix (cw dA ad B E (swp π i j) τ D))) := by
  rw [e79]
  simp only [pz_o_s, wf_gf hA, wf_gu hA, wf_pf hA, wf_il hA, wf_is hA, wf_rl hA, wf_rs hA, Option.map_some, Option.toList_some, Option.toList_none, List.cons_append, List.nil_append, List.length_cons, List.length_nil, Nat.reduceAdd, Nat.reduceLeDiff, Nat.zero_le, u2_e, Nat.reduceEqDiff, false_and, and_false, true_and, and_true, if_false, if_true, i10, i01, q79_0, q79_1, q79_4, q79_5, q79_6, q79_6n, q79_7, q79_8, q79_11, q79_12, q79_13, q79_16, q79_17, q79_18, q79_19, q79_20, q79_23, q79_24, q79_24n, q79_25, q79_26, gu_L, gf_L0, gf_L1, gf_L2, pf_L1, pf_L2, rl_4 hi, rl_4 hj, rt_4 hi hq, rt_4 hj hp]
  rfl
set_option maxHeartbeats 4000000 in
set_option maxRecDepth 20000 in
theorem i75 (hA : ∀ i, ix (ad i) = i) {kk : Int32} {q i n : Nat} (h : i + 1 < n) (hn : n ≤ 24) (hc : B 20 0 = nI n) (hp : ∀ j, π j < 25) : pz_R dA d 75 11 [.ref (ad 3), .int kk, .ref q, .int (nI (i + 1))] [] (pz_wf ad ix (cw dA ad B E π τ D)) Q = (pz_R dA d 75 11 [.ref (ad 3), .int kk, .ref q, .int (nI (i + 1 + 1))] [] (pz_wf ad ix (cw dA ad B E (va_up π i (π (i + 1))) τ D)) Q) := by
  rw [q75_11]
  simp only [pz_o_s, wf_gf hA, wf_gu hA, wf_pf hA, wf_il hA, wf_is hA, wf_rl hA, wf_rs hA, Option.map_some, Option.toList_some, Option.toList_none, List.cons_append, List.nil_append, List.length_cons, List.length_nil, Nat.reduceAdd, Nat.reduceLeDiff, Nat.zero_le, u2_e, Nat.reduceEqDiff, false_and, and_false, true_and, and_true, if_false, if_true, i10, i01, q75_0, q75_1, q75_4, q75_5, q75_6, q75_6n, q75_7, q75_8, q75_9, q75_10, q75_12, q75_13, q75_16, q75_19, q75_20, q75_23, q75_24, q75_25, q75_26, q75_27, q75_30, q75_31, q75_32, q75_33, q75_36, q75_39, q75_40, q75_41, q75_44, q75_45, q75_46, q75_49, q75_50, q75_53, q75_54, q75_57, q75_58, q75_61, q75_62, q75_63, q75_63n, q75_64, q75_67, q75_67n, q75_68, q75_68n, gu_L, gf_L0, gf_L1, gf_L2, pf_L1, pf_L2, hc, nle_nI h (by omega), rl_4 (show i + 1 < 24 by omega), nI_p1, rt_4 (show i < 24 by omega) (hp (i + 1)), nI_1]
set_option maxHeartbeats 4000000 in
set_option maxRecDepth 20000 in
theorem x75 (hA : ∀ i, ix (ad i) = i) {kk : Int32} {q n : Nat} (hn : n ≤ 24) (hc : B 20 0 = nI n) : pz_R dA d 75 11 [.ref (ad 3), .int kk, .ref q, .int (nI n)] [] (pz_wf ad ix (cw dA ad B E π τ D)) Q = (pz_R dA d 75 39 [.ref (ad 3), .int kk, .ref q, .int (nI n)] [] (pz_wf ad ix (cw dA ad B E π τ D)) Q) := by
  rw [q75_11]
  simp only [pz_o_s, wf_gf hA, wf_gu hA, wf_pf hA, wf_il hA, wf_is hA, wf_rl hA, wf_rs hA, Option.map_some, Option.toList_some, Option.toList_none, List.cons_append, List.nil_append, List.length_cons, List.length_nil, Nat.reduceAdd, Nat.reduceLeDiff, Nat.zero_le, u2_e, Nat.reduceEqDiff, false_and, and_false, true_and, and_true, if_false, if_true, i10, i01, q75_0, q75_1, q75_4, q75_5, q75_6, q75_6n, q75_7, q75_8, q75_9, q75_10, q75_12, q75_13, q75_16, q75_19, q75_20, q75_23, q75_24, q75_25, q75_26, q75_27, q75_30, q75_31, q75_32, q75_33, q75_36, q75_39, q75_40, q75_41, q75_44, q75_45, q75_46, q75_49, q75_50, q75_53, q75_54, q75_57, q75_58, q75_61, q75_62, q75_63, q75_63n, q75_64, q75_67, q75_67n, q75_68, q75_68n, gu_L, gf_L0, gf_L1, gf_L2, pf_L1, pf_L2, hc, le_nI (Nat.le_refl n) (show n < 2 ^ 31 by omega)]
theorem va_up_lt {π : Nat → Nat} (hp : ∀ j, π j < 25) (i : Nat) {m : Nat} (hm : m < 25) : ∀ j, va_up π i m j < 25 := by
  intro j
  unfold va_up
  split
  · exact hm
  · exact hp j
theorem l75 (hA : ∀ i, ix (ad i) = i) {kk : Int32} {q n : Nat} (hn : n ≤ 24) (hc : B 20 0 = nI n) : ∀ (t i : Nat) (π : Nat → Nat), i + 1 + t = n → (∀ j, π j < 25) → pz_R dA d 75 11 [.ref (ad 3), .int kk, .ref q, .int (nI (i + 1))] [] (pz_wf ad ix (cw dA ad B E π τ D)) Q = pz_R dA d 75 39 [.ref (ad 3), .int kk, .ref q, .int (nI n)] [] (pz_wf ad ix (cw dA ad B E (shf t i π) τ D)) Q := by
  intro t
  induction t with
  | zero =>
    intro i π h hp
    have h : i + 1 = n := h
    subst h
    exact x75 hA hn hc
  | succ t ih =>
    intro i π h hp
    rw [i75 hA (by omega) hn hc hp]
    exact ih (i + 1) _ (by omega) (va_up_lt hp i (hp (i + 1)))
set_option maxHeartbeats 4000000 in
set_option maxRecDepth 20000 in
theorem m75 (hA : ∀ i, ix (ad i) = i) {k n : Nat} (hk : k < n + 1) (hn : n + 1 ≤ 24) (hc : B 20 0 = nI (n + 1)) (hp : ∀ j, π j < 25) (ht : τ < 25) (hs : ∀ t i j, shf t i π j < 25) : pz_C dA d 75 [.ref (ad 3), .int (nI k)] (pz_wf ad ix (cw dA ad B E π τ D)) Q = Q (some (.ref (ad (60 + π k)))) (pz_wf ad ix (cw dA ad (u2 B 20 0 (nI n)) E (va_up (shf (n - k) k π) n τ) (π k) D)) := by
  rw [e75]
  simp only [pz_o_s, wf_gf hA, wf_gu hA, wf_pf hA, wf_il hA, wf_is hA, wf_rl hA, wf_rs hA, Option.map_some, Option.toList_some, Option.toList_none, List.cons_append, List.nil_append, List.length_cons, List.length_nil, Nat.reduceAdd, Nat.reduceLeDiff, Nat.zero_le, u2_e, Nat.reduceEqDiff, false_and, and_false, true_and, and_true, if_false, if_true, i10, i01, q75_0, q75_1, q75_4, q75_5, q75_6, q75_6n, q75_7, q75_8, q75_9, q75_10, q75_12, q75_13, q75_16, q75_19, q75_20, q75_23, q75_24, q75_25, q75_26, q75_27, q75_30, q75_31, q75_32, q75_33, q75_36, q75_39, q75_40, q75_41, q75_44, q75_45, q75_46, q75_49, q75_50, q75_53, q75_54, q75_57, q75_58, q75_61, q75_62, q75_63, q75_63n, q75_64, q75_67, q75_67n, q75_68, q75_68n, gu_L, gf_L0, gf_L1, gf_L2, pf_L1, pf_L2, rl_4 (show k < 24 by omega), nI_1]
  rw [l75 hA hn hc (n - k) k π (by omega) hp]
  simp only [pz_o_s, wf_gf hA, wf_gu hA, wf_pf hA, wf_il hA, wf_is hA, wf_rl hA, wf_rs hA, Option.map_some, Option.toList_some, Option.toList_none, List.cons_append, List.nil_append, List.length_cons, List.length_nil, Nat.reduceAdd, Nat.reduceLeDiff, Nat.zero_le, u2_e, Nat.reduceEqDiff, false_and, and_false, true_and, and_true, if_false, if_true, i10, i01, q75_0, q75_1, q75_4, q75_5, q75_6, q75_6n, q75_7, q75_8, q75_9, q75_10, q75_12, q75_13, q75_16, q75_19, q75_20, q75_23, q75_24, q75_25, q75_26, q75_27, q75_30, q75_31, q75_32, q75_33, q75_36, q75_39, q75_40, q75_41, q75_44, q75_45, q75_46, q75_49, q75_50, q75_53, q75_54, q75_57, q75_58, q75_61, q75_62, q75_63, q75_63n, q75_64, q75_67, q75_67n, q75_68, q75_68n, gu_L, gf_L0, gf_L1, gf_L2, pf_L1, pf_L2, hc, nI_p1, rt_4 (show n < 24 by omega) ht]
set_option maxHeartbeats 4000000 in
set_option maxRecDepth 20000 in
theorem i76 (hA : ∀ i, ix (ad i) = i) {e : Int32} {i n : Nat} (h : i < n) (hn : n ≤ 24) (hc : B 20 0 = nI n) (hp : ∀ j, π j < 25) : pz_R dA d 76 2 [.ref (ad 3), .int e, .int (nI i)] [] (pz_wf ad ix (cw dA ad B E π τ D)) Q = (pz_R dA d 76 2 [.ref (ad 3), .int e, .int (nI (i + 1))] [] (pz_wf ad ix (cw dA ad B (u2 E (π i) 14 (bi (E (π i) 3 < e))) π τ D)) Q) := by
  rw [q76_2]
  simp only [pz_o_s, wf_gf hA, wf_gu hA, wf_pf hA, wf_il hA, wf_is hA, wf_rl hA, wf_rs hA, Option.map_some, Option.toList_some, Option.toList_none, List.cons_append, List.nil_append, List.length_cons, List.length_nil, Nat.reduceAdd, Nat.reduceLeDiff, Nat.zero_le, u2_e, Nat.reduceEqDiff, false_and, and_false, true_and, and_true, if_false, if_true, i10, i01, q76_0, q76_1, q76_3, q76_4, q76_7, q76_10, q76_11, q76_14, q76_15, q76_16, q76_17, q76_20, q76_21, q76_22, q76_25, q76_26, q76_29, q76_30, q76_33, q76_34z, q76_34o, q76_37, q76_40, q76_43, q76_44, q76_47, gu_L, gf_L0, gf_L1, gf_L2, pf_L1, pf_L2, gu_M (hp i), gf_M0 (hp i), gf_M1 (hp i), gf_M2 (hp i), gf_M3 (hp i), gf_M4 (hp i), gf_M5 (hp i), gf_M6 (hp i), gf_M7 (hp i), gf_M8 (hp i), gf_M9 (hp i), gf_M10 (hp i), gf_M11 (hp i), gf_M12 (hp i), gf_M13 (hp i), gf_M14 (hp i), pf_M0 (hp i), pf_M1 (hp i), pf_M2 (hp i), pf_M3 (hp i), pf_M4 (hp i), pf_M5 (hp i), pf_M6 (hp i), pf_M7 (hp i), pf_M8 (hp i), pf_M9 (hp i), pf_M10 (hp i), pf_M11 (hp i), pf_M12 (hp i), pf_M13 (hp i), pf_M14 (hp i), hc, nle_nI h (by omega), rl_4 (show i < 24 by omega), nI_1]
  by_cases h9 : e ≤ E (π i) 3
  · have h8 : ¬ E (π i) 3 < e := fun q => absurd h9 (Int32.not_le.mpr q)
    simp only [h9, h8, bi, if_true, if_false]
  · have h8 : E (π i) 3 < e := Int32.not_le.mp h9
    simp only [h9, h8, bi, if_true, if_false]
set_option maxHeartbeats 4000000 in
set_option maxRecDepth 20000 in
theorem x76 (hA : ∀ i, ix (ad i) = i) {e : Int32} {n : Nat} (hn : n ≤ 24) (hc : B 20 0 = nI n) : pz_R dA d 76 2 [.ref (ad 3), .int e, .int (nI n)] [] (pz_wf ad ix (cw dA ad B E π τ D)) Q = (pz_R dA d 76 43 [.ref (ad 3), .int e, .int (nI n)] [] (pz_wf ad ix (cw dA ad B E π τ D)) Q) := by
  rw [q76_2]
  simp only [pz_o_s, wf_gf hA, wf_gu hA, wf_pf hA, wf_il hA, wf_is hA, wf_rl hA, wf_rs hA, Option.map_some, Option.toList_some, Option.toList_none, List.cons_append, List.nil_append, List.length_cons, List.length_nil, Nat.reduceAdd, Nat.reduceLeDiff, Nat.zero_le, u2_e, Nat.reduceEqDiff, false_and, and_false, true_and, and_true, if_false, if_true, i10, i01, q76_0, q76_1, q76_3, q76_4, q76_7, q76_10, q76_11, q76_14, q76_15, q76_16, q76_17, q76_20, q76_21, q76_22, q76_25, q76_26, q76_29, q76_30, q76_33, q76_34z, q76_34o, q76_37, q76_40, q76_43, q76_44, q76_47, gu_L, gf_L0, gf_L1, gf_L2, pf_L1, pf_L2, hc, le_nI (Nat.le_refl n) (show n < 2 ^ 31 by omega)]
theorem l76 (hA : ∀ i, ix (ad i) = i) {e : Int32} {n : Nat} (hn : n ≤ 24) (hc : B 20 0 = nI n) (hp : ∀ j, π j < 25) : ∀ (t i : Nat) (E : Nat → Nat → Int32), i + t = n → pz_R dA d 76 2 [.ref (ad 3), .int e, .int (nI i)] [] (pz_wf ad ix (cw dA ad B E π τ D)) Q = pz_R dA d 76 43 [.ref (ad 3), .int e, .int (nI n)] [] (pz_wf ad ix (cw dA ad B (mrk π (fun E m => bi (E m 3 < e)) t i E) π τ D)) Q := by
  intro t
  induction t with
  | zero =>
    intro i E h
    have h : i = n := h
    subst h
    exact x76 hA hn hc
  | succ t ih =>
    intro i E h
    rw [i76 hA (by omega) hn hc hp]
    exact ih (i + 1) _ (by omega)
set_option maxHeartbeats 4000000 in
set_option maxRecDepth 20000 in
theorem i77 (hA : ∀ i, ix (ad i) = i) {i n : Nat} (h : i < n) (hn : n ≤ 24) (hc : B 20 0 = nI n) (hp : ∀ j, π j < 25) : pz_R dA (d + 1) 77 2 [.ref (ad 3), .int (nI i)] [] (pz_wf ad ix (cw dA ad B E π τ D)) Q = (pz_R dA (d + 1) 77 2 [.ref (ad 3), .int (nI (i + 1))] [] (pz_wf ad ix (cw dA ad B (u2 E (π i) 14 (bi (E (π i) 0 = 4 ∨ E (π i) 0 = 5 ∨ E (π i) 0 = 6))) π τ D)) Q) := by
  rw [q77_2]
  simp only [pz_o_s, wf_gf hA, wf_gu hA, wf_pf hA, wf_il hA, wf_is hA, wf_rl hA, wf_rs hA, Option.map_some, Option.toList_some, Option.toList_none, List.cons_append, List.nil_append, List.length_cons, List.length_nil, Nat.reduceAdd, Nat.reduceLeDiff, Nat.zero_le, u2_e, Nat.reduceEqDiff, false_and, and_false, true_and, and_true, if_false, if_true, i10, i01, q77_0, q77_1, q77_3, q77_4, q77_7, q77_10, q77_11, q77_14, q77_15, q77_16, q77_17, q77_20, q77_21, q77_22, q77_25z, q77_25o, q77_28, q77_31, q77_34, q77_35, q77_38, gu_L, gf_L0, gf_L1, gf_L2, pf_L1, pf_L2, gu_M (hp i), gf_M0 (hp i), gf_M1 (hp i), gf_M2 (hp i), gf_M3 (hp i), gf_M4 (hp i), gf_M5 (hp i), gf_M6 (hp i), gf_M7 (hp i), gf_M8 (hp i), gf_M9 (hp i), gf_M10 (hp i), gf_M11 (hp i), gf_M12 (hp i), gf_M13 (hp i), gf_M14 (hp i), pf_M0 (hp i), pf_M1 (hp i), pf_M2 (hp i), pf_M3 (hp i), pf_M4 (hp i), pf_M5 (hp i), pf_M6 (hp i), pf_M7 (hp i), pf_M8 (hp i), pf_M9 (hp i), pf_M10 (hp i), pf_M11 (hp i), pf_M12 (hp i), pf_M13 (hp i), pf_M14 (hp i), hc, nle_nI h (by omega), rl_4 (show i < 24 by omega), nI_1, m81 hA (hp i)]
  by_cases h4 : E (π i) 0 = 4 <;> by_cases h5 : E (π i) 0 = 5 <;> by_cases h6 : E (π i) 0 = 6 <;> simp [h4, h5, h6, bi]
set_option maxHeartbeats 4000000 in
set_option maxRecDepth 20000 in
theorem x77 (hA : ∀ i, ix (ad i) = i) {n : Nat} (hn : n ≤ 24) (hc : B 20 0 = nI n) : pz_R dA d 77 2 [.ref (ad 3), .int (nI n)] [] (pz_wf ad ix (cw dA ad B E π τ D)) Q = (pz_R dA d 77 34 [.ref (ad 3), .int (nI n)] [] (pz_wf ad ix (cw dA ad B E π τ D)) Q) := by
  rw [q77_2]
  simp only [pz_o_s, wf_gf hA, wf_gu hA, wf_pf hA, wf_il hA, wf_is hA, wf_rl hA, wf_rs hA, Option.map_some, Option.toList_some, Option.toList_none, List.cons_append, List.nil_append, List.length_cons, List.length_nil, Nat.reduceAdd, Nat.reduceLeDiff, Nat.zero_le, u2_e, Nat.reduceEqDiff, false_and, and_false, true_and, and_true, if_false, if_true, i10, i01, q77_0, q77_1, q77_3, q77_4, q77_7, q77_10, q77_11, q77_14, q77_15, q77_16, q77_17, q77_20, q77_21, q77_22, q77_25z, q77_25o, q77_28, q77_31, q77_34, q77_35, q77_38, gu_L, gf_L0, gf_L1, gf_L2, pf_L1, pf_L2, hc, le_nI (Nat.le_refl n) (show n < 2 ^ 31 by omega)]
theorem l77 (hA : ∀ i, ix (ad i) = i) {n : Nat} (hn : n ≤ 24) (hc : B 20 0 = nI n) (hp : ∀ j, π j < 25) : ∀ (t i : Nat) (E : Nat → Nat → Int32), i + t = n → pz_R dA (d + 1) 77 2 [.ref (ad 3), .int (nI i)] [] (pz_wf ad ix (cw dA ad B E π τ D)) Q = pz_R dA (d + 1) 77 34 [.ref (ad 3), .int (nI n)] [] (pz_wf ad ix (cw dA ad B (mrk π (fun E m => bi (E m 0 = 4 ∨ E m 0 = 5 ∨ E m 0 = 6)) t i E) π τ D)) Q := by
  intro t
  induction t with
  | zero =>
    intro i E h
    have h : i = n := h
    subst h
    exact x77 hA hn hc
  | succ t ih =>
    intro i E h
    rw [i77 hA (by omega) hn hc hp]
    exact ih (i + 1) _ (by omega)
set_option maxHeartbeats 4000000 in
set_option maxRecDepth 20000 in
theorem i78 (hA : ∀ i, ix (ad i) = i) {kp i n : Nat} (h : i < n) (hk : kp ≤ i) (hn : n ≤ 24) (hc : B 20 0 = nI n) (hp : ∀ j, π j < 25) : pz_R dA (d + 1) 78 4 [.ref (ad 3), .int (nI kp), .int (nI i)] [] (pz_wf ad ix (cw dA ad B E π τ D)) Q = (if E (π i) 14 = 0 then pz_R dA (d + 1) 78 4 [.ref (ad 3), .int (nI (kp + 1)), .int (nI (i + 1))] [] (pz_wf ad ix (cw dA ad B E (swp π kp i) τ D)) Q else pz_R dA (d + 1) 78 4 [.ref (ad 3), .int (nI kp), .int (nI (i + 1))] [] (pz_wf ad ix (cw dA ad B E π τ D)) Q) := by
  rw [q78_4]
  simp only [pz_o_s, wf_gf hA, wf_gu hA, wf_pf hA, wf_il hA, wf_is hA, wf_rl hA, wf_rs hA, Option.map_some, Option.toList_some, Option.toList_none, List.cons_append, List.nil_append, List.length_cons, List.length_nil, Nat.reduceAdd, Nat.reduceLeDiff, Nat.zero_le, u2_e, Nat.reduceEqDiff, false_and, and_false, true_and, and_true, if_false, if_true, i10, i01, q78_0, q78_1, q78_2, q78_3, q78_5, q78_6, q78_9, q78_12, q78_13, q78_16, q78_17, q78_18, q78_21, q78_24, q78_25, q78_26, q78_27, q78_30, q78_33, q78_36, q78_39, q78_40, q78_41, q78_44, gu_L, gf_L0, gf_L1, gf_L2, pf_L1, pf_L2, gu_M (hp i), gf_M0 (hp i), gf_M1 (hp i), gf_M2 (hp i), gf_M3 (hp i), gf_M4 (hp i), gf_M5 (hp i), gf_M6 (hp i), gf_M7 (hp i), gf_M8 (hp i), gf_M9 (hp i), gf_M10 (hp i), gf_M11 (hp i), gf_M12 (hp i), gf_M13 (hp i), gf_M14 (hp i), hc, nle_nI h (by omega), rl_4 (show i < 24 by omega), nI_1, m79 hA (show kp < 24 by omega) (show i < 24 by omega) (hp kp) (hp i)]
set_option maxHeartbeats 4000000 in
set_option maxRecDepth 20000 in
theorem x78 (hA : ∀ i, ix (ad i) = i) {kp n : Nat} (hn : n ≤ 24) (hc : B 20 0 = nI n) : pz_R dA d 78 4 [.ref (ad 3), .int (nI kp), .int (nI n)] [] (pz_wf ad ix (cw dA ad B E π τ D)) Q = (pz_R dA d 78 39 [.ref (ad 3), .int (nI kp), .int (nI n)] [] (pz_wf ad ix (cw dA ad B E π τ D)) Q) := by
  rw [q78_4]
  simp only [pz_o_s, wf_gf hA, wf_gu hA, wf_pf hA, wf_il hA, wf_is hA, wf_rl hA, wf_rs hA, Option.map_some, Option.toList_some, Option.toList_none, List.cons_append, List.nil_append, List.length_cons, List.length_nil, Nat.reduceAdd, Nat.reduceLeDiff, Nat.zero_le, u2_e, Nat.reduceEqDiff, false_and, and_false, true_and, and_true, if_false, if_true, i10, i01, q78_0, q78_1, q78_2, q78_3, q78_5, q78_6, q78_9, q78_12, q78_13, q78_16, q78_17, q78_18, q78_21, q78_24, q78_25, q78_26, q78_27, q78_30, q78_33, q78_36, q78_39, q78_40, q78_41, q78_44, gu_L, gf_L0, gf_L1, gf_L2, pf_L1, pf_L2, hc, le_nI (Nat.le_refl n) (show n < 2 ^ 31 by omega)]
theorem swp_lt {π : Nat → Nat} (hp : ∀ j, π j < 25) (i j : Nat) : ∀ a, swp π i j a < 25 := va_up_lt (va_up_lt hp i (hp j)) j (hp i)
theorem l78 (hA : ∀ i, ix (ad i) = i) {n : Nat} (hn : n ≤ 24) (hc : B 20 0 = nI n) : ∀ (t i kp : Nat) (π : Nat → Nat), i + t = n → kp ≤ i → (∀ j, π j < 25) → pz_R dA (d + 1) 78 4 [.ref (ad 3), .int (nI kp), .int (nI i)] [] (pz_wf ad ix (cw dA ad B E π τ D)) Q = pz_R dA (d + 1) 78 39 [.ref (ad 3), .int (nI (rmv E t i kp π).2), .int (nI n)] [] (pz_wf ad ix (cw dA ad B E (rmv E t i kp π).1 τ D)) Q := by
  intro t
  induction t with
  | zero =>
    intro i kp π h hk hp
    have h : i = n := h
    subst h
    exact x78 hA hn hc
  | succ t ih =>
    intro i kp π h hk hp
    rw [i78 hA (by omega) hk hn hc hp]
    by_cases h9 : E (π i) 14 = 0
    · rw [if_pos h9, ih (i + 1) (kp + 1) _ (by omega) (by omega) (swp_lt hp kp i)]
      simp only [rmv, h9, if_true]
    · rw [if_neg h9, ih (i + 1) kp _ (by omega) (by omega) hp]
      simp only [rmv, h9, if_false]
set_option maxHeartbeats 4000000 in
set_option maxRecDepth 20000 in
theorem m78 (hA : ∀ i, ix (ad i) = i) {n : Nat} (hn : n ≤ 24) (hc : B 20 0 = nI n) (hp : ∀ j, π j < 25) : pz_C dA (d + 1) 78 [.ref (ad 3)] (pz_wf ad ix (cw dA ad B E π τ D)) Q = Q none (pz_wf ad ix (cw dA ad (u2 B 20 0 (nI (rmv E n 0 0 π).2)) E (rmv E n 0 0 π).1 τ D)) := by
  rw [e78]
  simp only [pz_o_s, wf_gf hA, wf_gu hA, wf_pf hA, wf_il hA, wf_is hA, wf_rl hA, wf_rs hA, Option.map_some, Option.toList_some, Option.toList_none, List.cons_append, List.nil_append, List.length_cons, List.length_nil, Nat.reduceAdd, Nat.reduceLeDiff, Nat.zero_le, u2_e, Nat.reduceEqDiff, false_and, and_false, true_and, and_true, if_false, if_true, i10, i01, q78_0, q78_1, q78_2, q78_3, q78_5, q78_6, q78_9, q78_12, q78_13, q78_16, q78_17, q78_18, q78_21, q78_24, q78_25, q78_26, q78_27, q78_30, q78_33, q78_36, q78_39, q78_40, q78_41, q78_44]
  have h := l78 (dA := dA) (D := D) (τ := τ) (E := E) (Q := Q) (d := d) hA hn hc n 0 0 π (by omega) (Nat.le_refl 0) hp
  rw [nI_0] at h
  rw [h]
  simp only [pz_o_s, wf_gf hA, wf_gu hA, wf_pf hA, wf_il hA, wf_is hA, wf_rl hA, wf_rs hA, Option.map_some, Option.toList_some, Option.toList_none, List.cons_append, List.nil_append, List.length_cons, List.length_nil, Nat.reduceAdd, Nat.reduceLeDiff, Nat.zero_le, u2_e, Nat.reduceEqDiff, false_and, and_false, true_and, and_true, if_false, if_true, i10, i01, q78_0, q78_1, q78_2, q78_3, q78_5, q78_6, q78_9, q78_12, q78_13, q78_16, q78_17, q78_18, q78_21, q78_24, q78_25, q78_26, q78_27, q78_30, q78_33, q78_36, q78_39, q78_40, q78_41, q78_44, gu_L, gf_L0, gf_L1, gf_L2, pf_L1, pf_L2]
set_option maxHeartbeats 4000000 in
set_option maxRecDepth 20000 in
theorem m76 (hA : ∀ i, ix (ad i) = i) {e : Int32} {n : Nat} (hn : n ≤ 24) (hc : B 20 0 = nI n) (hp : ∀ j, π j < 25) : pz_C dA (d + 2) 76 [.ref (ad 3), .int e] (pz_wf ad ix (cw dA ad B E π τ D)) Q = Q none (pz_wf ad ix (cw dA ad (u2 B 20 0 (nI (rmv (mrk π (fun E m => bi (E m 3 < e)) n 0 E) n 0 0 π).2)) (mrk π (fun E m => bi (E m 3 < e)) n 0 E) (rmv (mrk π (fun E m => bi (E m 3 < e)) n 0 E) n 0 0 π).1 τ D)) := by
  rw [e76]
  simp only [pz_o_s, wf_gf hA, wf_gu hA, wf_pf hA, wf_il hA, wf_is hA, wf_rl hA, wf_rs hA, Option.map_some, Option.toList_some, Option.toList_none, List.cons_append, List.nil_append, List.length_cons, List.length_nil, Nat.reduceAdd, Nat.reduceLeDiff, Nat.zero_le, u2_e, Nat.reduceEqDiff, false_and, and_false, true_and, and_true, if_false, if_true, i10, i01, q76_0, q76_1, q76_3, q76_4, q76_7, q76_10, q76_11, q76_14, q76_15, q76_16, q76_17, q76_20, q76_21, q76_22, q76_25, q76_26, q76_29, q76_30, q76_33, q76_34z, q76_34o, q76_37, q76_40, q76_43, q76_44, q76_47]
  have h := l76 (dA := dA) (D := D) (τ := τ) (Q := Q) (d := d + 2) hA (e := e) hn hc hp n 0 E (by omega)
  rw [nI_0] at h
  rw [h]
  simp only [pz_o_s, wf_gf hA, wf_gu hA, wf_pf hA, wf_il hA, wf_is hA, wf_rl hA, wf_rs hA, Option.map_some, Option.toList_some, Option.toList_none, List.cons_append, List.nil_append, List.length_cons, List.length_nil, Nat.reduceAdd, Nat.reduceLeDiff, Nat.zero_le, u2_e, Nat.reduceEqDiff, false_and, and_false, true_and, and_true, if_false, if_true, i10, i01, q76_0, q76_1, q76_3, q76_4, q76_7, q76_10, q76_11, q76_14, q76_15, q76_16, q76_17, q76_20, q76_21, q76_22, q76_25, q76_26, q76_29, q76_30, q76_33, q76_34z, q76_34o, q76_37, q76_40, q76_43, q76_44, q76_47, gu_L, gf_L0, gf_L1, gf_L2, pf_L1, pf_L2, m78 hA hn hc hp]
set_option maxHeartbeats 4000000 in
set_option maxRecDepth 20000 in
theorem m77 (hA : ∀ i, ix (ad i) = i) {n : Nat} (hn : n ≤ 24) (hc : B 20 0 = nI n) (hp : ∀ j, π j < 25) : pz_C dA (d + 2) 77 [.ref (ad 3)] (pz_wf ad ix (cw dA ad B E π τ D)) Q = Q none (pz_wf ad ix (cw dA ad (u2 B 20 0 (nI (rmv (mrk π (fun E m => bi (E m 0 = 4 ∨ E m 0 = 5 ∨ E m 0 = 6)) n 0 E) n 0 0 π).2)) (mrk π (fun E m => bi (E m 0 = 4 ∨ E m 0 = 5 ∨ E m 0 = 6)) n 0 E) (rmv (mrk π (fun E m => bi (E m 0 = 4 ∨ E m 0 = 5 ∨ E m 0 = 6)) n 0 E) n 0 0 π).1 τ D)) := by
  rw [e77]
  simp only [pz_o_s, wf_gf hA, wf_gu hA, wf_pf hA, wf_il hA, wf_is hA, wf_rl hA, wf_rs hA, Option.map_some, Option.toList_some, Option.toList_none, List.cons_append, List.nil_append, List.length_cons, List.length_nil, Nat.reduceAdd, Nat.reduceLeDiff, Nat.zero_le, u2_e, Nat.reduceEqDiff, false_and, and_false, true_and, and_true, if_false, if_true, i10, i01, q77_0, q77_1, q77_3, q77_4, q77_7, q77_10, q77_11, q77_14, q77_15, q77_16, q77_17, q77_20, q77_21, q77_22, q77_25z, q77_25o, q77_28, q77_31, q77_34, q77_35, q77_38]
  have h := l77 (dA := dA) (D := D) (τ := τ) (Q := Q) (d := d + 1) hA hn hc hp n 0 E (by omega)
  rw [nI_0] at h
  rw [h]
  simp only [pz_o_s, wf_gf hA, wf_gu hA, wf_pf hA, wf_il hA, wf_is hA, wf_rl hA, wf_rs hA, Option.map_some, Option.toList_some, Option.toList_none, List.cons_append, List.nil_append, List.length_cons, List.length_nil, Nat.reduceAdd, Nat.reduceLeDiff, Nat.zero_le, u2_e, Nat.reduceEqDiff, false_and, and_false, true_and, and_true, if_false, if_true, i10, i01, q77_0, q77_1, q77_3, q77_4, q77_7, q77_10, q77_11, q77_14, q77_15, q77_16, q77_17, q77_20, q77_21, q77_22, q77_25z, q77_25o, q77_28, q77_31, q77_34, q77_35, q77_38, gu_L, gf_L0, gf_L1, gf_L2, pf_L1, pf_L2, m78 hA hn hc hp]
end LM
