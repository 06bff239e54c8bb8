/-! the system's own methods: arrivals and the calls -/
theorem li_n2_n1 : (((-2) : Int32) = (-1)) = False := by decide
theorem li_n2_0 : (((-2) : Int32) = 0) = False := by decide
theorem li_n2_1 : (((-2) : Int32) = 1) = False := by decide
theorem li_n2_2 : (((-2) : Int32) = 2) = False := by decide
theorem li_n2_3 : (((-2) : Int32) = 3) = False := by decide
theorem li_n2_4 : (((-2) : Int32) = 4) = False := by decide
theorem li_n2_5 : (((-2) : Int32) = 5) = False := by decide
theorem li_n2_6 : (((-2) : Int32) = 6) = False := by decide
theorem li_n2_7 : (((-2) : Int32) = 7) = False := by decide
theorem li_n1_n2 : (((-1) : Int32) = (-2)) = False := by decide
theorem li_n1_0 : (((-1) : Int32) = 0) = False := by decide
theorem li_n1_1 : (((-1) : Int32) = 1) = False := by decide
theorem li_n1_2 : (((-1) : Int32) = 2) = False := by decide
theorem li_n1_3 : (((-1) : Int32) = 3) = False := by decide
theorem li_n1_4 : (((-1) : Int32) = 4) = False := by decide
theorem li_n1_5 : (((-1) : Int32) = 5) = False := by decide
theorem li_n1_6 : (((-1) : Int32) = 6) = False := by decide
theorem li_n1_7 : (((-1) : Int32) = 7) = False := by decide
theorem li_0_n2 : ((0 : Int32) = (-2)) = False := by decide
theorem li_0_n1 : ((0 : Int32) = (-1)) = False := by decide
theorem li_0_1 : ((0 : Int32) = 1) = False := by decide
theorem li_0_2 : ((0 : Int32) = 2) = False := by decide
theorem li_0_3 : ((0 : Int32) = 3) = False := by decide
theorem li_0_4 : ((0 : Int32) = 4) = False := by decide
theorem li_0_5 : ((0 : Int32) = 5) = False := by decide
theorem li_0_6 : ((0 : Int32) = 6) = False := by decide
theorem li_0_7 : ((0 : Int32) = 7) = False := by decide
theorem li_1_n2 : ((1 : Int32) = (-2)) = False := by decide
theorem li_1_n1 : ((1 : Int32) = (-1)) = False := by decide
theorem li_1_0 : ((1 : Int32) = 0) = False := by decide
theorem li_1_2 : ((1 : Int32) = 2) = False := by decide
theorem li_1_3 : ((1 : Int32) = 3) = False := by decide
theorem li_1_4 : ((1 : Int32) = 4) = False := by decide
theorem li_1_5 : ((1 : Int32) = 5) = False := by decide
theorem li_1_6 : ((1 : Int32) = 6) = False := by decide
theorem li_1_7 : ((1 : Int32) = 7) = False := by decide
theorem li_2_n2 : ((2 : Int32) = (-2)) = False := by decide
theorem li_2_n1 : ((2 : Int32) = (-1)) = False := by decide
theorem li_2_0 : ((2 : Int32) = 0) = False := by decide
theorem li_2_1 : ((2 : Int32) = 1) = False := by decide
theorem li_2_3 : ((2 : Int32) = 3) = False := by decide
theorem li_2_4 : ((2 : Int32) = 4) = False := by decide
theorem li_2_5 : ((2 : Int32) = 5) = False := by decide
theorem li_2_6 : ((2 : Int32) = 6) = False := by decide
theorem li_2_7 : ((2 : Int32) = 7) = False := by decide
theorem li_3_n2 : ((3 : Int32) = (-2)) = False := by decide
theorem li_3_n1 : ((3 : Int32) = (-1)) = False := by decide
theorem li_3_0 : ((3 : Int32) = 0) = False := by decide
theorem li_3_1 : ((3 : Int32) = 1) = False := by decide
theorem li_3_2 : ((3 : Int32) = 2) = False := by decide
theorem li_3_4 : ((3 : Int32) = 4) = False := by decide
theorem li_3_5 : ((3 : Int32) = 5) = False := by decide
theorem li_3_6 : ((3 : Int32) = 6) = False := by decide
theorem li_3_7 : ((3 : Int32) = 7) = False := by decide
theorem li_4_n2 : ((4 : Int32) = (-2)) = False := by decide
theorem li_4_n1 : ((4 : Int32) = (-1)) = False := by decide
theorem li_4_0 : ((4 : Int32) = 0) = False := by decide
theorem li_4_1 : ((4 : Int32) = 1) = False := by decide
theorem li_4_2 : ((4 : Int32) = 2) = False := by decide
theorem li_4_3 : ((4 : Int32) = 3) = False := by decide
theorem li_4_5 : ((4 : Int32) = 5) = False := by decide
theorem li_4_6 : ((4 : Int32) = 6) = False := by decide
theorem li_4_7 : ((4 : Int32) = 7) = False := by decide
theorem li_5_n2 : ((5 : Int32) = (-2)) = False := by decide
theorem li_5_n1 : ((5 : Int32) = (-1)) = False := by decide
theorem li_5_0 : ((5 : Int32) = 0) = False := by decide
theorem li_5_1 : ((5 : Int32) = 1) = False := by decide
theorem li_5_2 : ((5 : Int32) = 2) = False := by decide
theorem li_5_3 : ((5 : Int32) = 3) = False := by decide
theorem li_5_4 : ((5 : Int32) = 4) = False := by decide
theorem li_5_6 : ((5 : Int32) = 6) = False := by decide
theorem li_5_7 : ((5 : Int32) = 7) = False := by decide
theorem li_6_n2 : ((6 : Int32) = (-2)) = False := by decide
theorem li_6_n1 : ((6 : Int32) = (-1)) = False := by decide
theorem li_6_0 : ((6 : Int32) = 0) = False := by decide
theorem li_6_1 : ((6 : Int32) = 1) = False := by decide
theorem li_6_2 : ((6 : Int32) = 2) = False := by decide
theorem li_6_3 : ((6 : Int32) = 3) = False := by decide
theorem li_6_4 : ((6 : Int32) = 4) = False := by decide
theorem li_6_5 : ((6 : Int32) = 5) = False := by decide
theorem li_6_7 : ((6 : Int32) = 7) = False := by decide
theorem li_7_n2 : ((7 : Int32) = (-2)) = False := by decide
theorem li_7_n1 : ((7 : Int32) = (-1)) = False := by decide
theorem li_7_0 : ((7 : Int32) = 0) = False := by decide
theorem li_7_1 : ((7 : Int32) = 1) = False := by decide
theorem li_7_2 : ((7 : Int32) = 2) = False := by decide
theorem li_7_3 : ((7 : Int32) = 3) = False := by decide
theorem li_7_4 : ((7 : Int32) = 4) = False := by decide
theorem li_7_5 : ((7 : Int32) = 5) = False := by decide
theorem li_7_6 : ((7 : Int32) = 6) = False := by decide
theorem nm1 {n : Nat} (h : n < 100) : (nI n = -1) = False := by
  simp only [eq_iff_iff, iff_false]
  intro q
  have h2 : (nI n).toInt = (-1 : Int32).toInt := by rw [q]
  rw [nI_toInt (by omega)] at h2
  have h3 : (-1 : Int32).toInt = -1 := by decide
  omega
theorem fnd_r (c : Nat → Bool) : ∀ t i, fnd c t i = -1 ∨ ∃ j, i ≤ j ∧ j < i + t ∧ fnd c t i = nI j := by
  intro t
  induction t with
  | zero => intro i; exact Or.inl rfl
  | succ t ih =>
    intro i
    unfold fnd
    split
    · exact Or.inr ⟨i, Nat.le_refl i, by omega, rfl⟩
    · rcases ih (i + 1) with h | ⟨j, h1, h2, h3⟩
      · exact Or.inl h
      · exact Or.inr ⟨j, by omega, by omega, h3⟩
theorem fnd6 (c : Nat → Bool) : fnd c 6 0 = -1 ∨ ∃ j, j < 6 ∧ fnd c 6 0 = nI j := by
  rcases fnd_r c 6 0 with h | ⟨j, -, h2, h3⟩
  · exact Or.inl h
  · exact Or.inr ⟨j, by omega, h3⟩
theorem chs_r (B : Nat → Nat → Int32) (s : Nat) (w now : Int32) : chs B s w now = -1 ∨ ∃ j, j < 6 ∧ chs B s w now = nI j := by
  unfold chs
  split
  · exact fnd6 _
  · split
    · exact fnd6 _
    · split
      · split
        · exact fnd6 _
        · exact fnd6 _
      · exact Or.inl rfl
theorem b_lnd_k {B : Nat → Nat → Int32} {s k i : Nat} {w now al : Int32} (h : k < 7 ∨ 14 < k) : b_lnd B s w now al k i = B k i := by
  unfold b_lnd b_chg
  split
  · simp only [u2_k _ _ _ _ (show k ≠ 7 by omega), u2_k _ _ _ _ (show k ≠ 8 by omega), u2_k _ _ _ _ (show k ≠ 9 by omega), u2_k _ _ _ _ (show k ≠ 13 by omega), u2_k _ _ _ _ (show k ≠ 14 by omega)]
  · simp only [u2_k _ _ _ _ (show k ≠ 7 by omega), u2_k _ _ _ _ (show k ≠ 8 by omega), u2_k _ _ _ _ (show k ≠ 9 by omega), u2_k _ _ _ _ (show k ≠ 10 by omega), u2_k _ _ _ _ (show k ≠ 11 by omega), u2_k _ _ _ _ (show k ≠ 12 by omega), u2_k _ _ _ _ (show k ≠ 13 by omega), u2_k _ _ _ _ (show k ≠ 14 by omega)]
theorem b_len_k {B : Nat → Nat → Int32} {s k i : Nat} {a b c e : Int32} (h : k < 7 ∨ 14 < k) : b_len B s a b c e k i = B k i := by
  unfold b_len
  simp only [u2_k _ _ _ _ (show k ≠ 7 by omega), u2_k _ _ _ _ (show k ≠ 8 by omega), u2_k _ _ _ _ (show k ≠ 9 by omega), u2_k _ _ _ _ (show k ≠ 10 by omega), u2_k _ _ _ _ (show k ≠ 11 by omega), u2_k _ _ _ _ (show k ≠ 12 by omega), u2_k _ _ _ _ (show k ≠ 14 by omega)]
theorem b_fre_k {B : Nat → Nat → Int32} {s k i : Nat} {a : Int32} (h : k < 7 ∨ 14 < k) : b_fre B s a k i = B k i := by
  unfold b_fre b_clr
  simp only [u2_k _ _ _ _ (show k ≠ 7 by omega), u2_k _ _ _ _ (show k ≠ 8 by omega), u2_k _ _ _ _ (show k ≠ 9 by omega), u2_k _ _ _ _ (show k ≠ 10 by omega), u2_k _ _ _ _ (show k ≠ 11 by omega), u2_k _ _ _ _ (show k ≠ 12 by omega), u2_k _ _ _ _ (show k ≠ 14 by omega)]
theorem tkA_k {B B' : Nat → Nat → Int32} {s k i : Nat} {a b c e g p : Int32} (h : k < 7 ∨ 14 < k) (hz : tkA B s a b c e g p = some B') : B' k i = B k i := by
  unfold tkA at hz
  repeat' split at hz
  all_goals first | (cases hz; done) | (cases hz; exact b_len_k h) | (cases hz; exact b_fre_k h) | (cases hz; rw [u2_k _ _ _ _ (by omega), u2_k _ _ _ _ (by omega)])
theorem rcA_k {B B' : Nat → Nat → Int32} {s k i : Nat} {a b c e g p : Int32} (h : k < 7 ∨ 14 < k) (hz : rcA B s a b c e g p = some B') : B' k i = B k i := by
  unfold rcA at hz
  repeat' split at hz
  all_goals first | (cases hz; done) | (cases hz; exact b_len_k h) | (cases hz; exact b_fre_k h) | (cases hz; rw [u2_k _ _ _ _ (by omega)]; exact b_len_k h)
theorem tuA_k {B B' : Nat → Nat → Int32} {s j k i : Nat} {a b c e g p q : Int32} (h : (k < 7 ∨ 14 < k) ∧ k ≠ 6) (hz : tuA B s j a b c e g p q = some B') : B' k i = B k i := by
  unfold tuA at hz
  repeat' split at hz
  · exact tkA_k h.1 hz
  · obtain ⟨B2, h1, rfl⟩ := Option.map_eq_some_iff.mp hz
    rw [u2_k _ _ _ _ h.2]
    exact rcA_k h.1 h1
  · cases hz
  · exact tkA_k h.1 hz
section OM
variable {dA ad ix : Nat → Nat} {B E D : Nat → Nat → Int32} {π : Nat → Nat} {τ d : Nat} {Q : Option Value → pz_F → Prop}

set_option maxHeartbeats 400000 in
set_option maxRecDepth 20000 in
theorem m28_4 (hA : ∀ i, ix (ad i) = i) {m : Nat} (hm : m < 25) (hk : E m 0 = 4) : pz_C dA (d + 1) 28 [.ref (ad 0), .ref (ad (60 + m))] (pz_wf ad ix (cw dA ad B E π τ D)) Q = (if ctc B = true then Q (some (.int 1)) (pz_wf ad ix (cw dA ad B E π τ D)) else Q (some (.int 0)) (pz_wf ad ix (cw dA ad B E π τ D))) := by
  rw [e28]
  simp only [pz_o_s, wf_gf hA, wf_gu hA, wf_pf hA, wf_il hA, wf_is hA, wf_rl hA, wf_rs hA, Option.map_some, Option.toList_some, Option.toList_none, List.cons_append, List.nil_append, List.length_cons, List.length_nil, Nat.reduceAdd, Nat.reduceLeDiff, Nat.zero_le, u2_e, Nat.reduceEqDiff, false_and, and_false, true_and, and_true, if_false, if_true, i10, i01, q28_0, q28_0n, q28_1, q28_4, q28_7, q28_8, q28_11z, q28_11o, q28_12, q28_12n, q28_13, q28_16, q28_19, q28_20, q28_23, q28_23n, q28_24, q28_27, q28_28, q28_31, q28_34, q28_35, q28_38, q28_39z, q28_39o, gu_M hm, gf_M0 hm, gf_M1 hm, gf_M2 hm, gf_M3 hm, gf_M4 hm, gf_M5 hm, gf_M6 hm, gf_M7 hm, gf_M8 hm, gf_M9 hm, gf_M10 hm, gf_M11 hm, gf_M12 hm, gf_M13 hm, gf_M14 hm, gu_P, hk, m81 hA hm, m19 hA, m82 hA hm, li_0_1, li_0_2, li_0_3, li_0_4, li_0_5, li_0_6, li_0_7, li_1_0, li_1_2, li_1_3, li_1_4, li_1_5, li_1_6, li_1_7, li_2_0, li_2_1, li_2_3, li_2_4, li_2_5, li_2_6, li_2_7, li_3_0, li_3_1, li_3_2, li_3_4, li_3_5, li_3_6, li_3_7, li_4_0, li_4_1, li_4_2, li_4_3, li_4_5, li_4_6, li_4_7, li_5_0, li_5_1, li_5_2, li_5_3, li_5_4, li_5_6, li_5_7, li_6_0, li_6_1, li_6_2, li_6_3, li_6_4, li_6_5, li_6_7, li_7_0, li_7_1, li_7_2, li_7_3, li_7_4, li_7_5, li_7_6]
set_option maxHeartbeats 400000 in
set_option maxRecDepth 20000 in
theorem m28_5 (hA : ∀ i, ix (ad i) = i) {m : Nat} (hm : m < 25) (hk : E m 0 = 5) : pz_C dA (d + 1) 28 [.ref (ad 0), .ref (ad (60 + m))] (pz_wf ad ix (cw dA ad B E π τ D)) Q = (if ctc B = true then Q (some (.int 1)) (pz_wf ad ix (cw dA ad B E π τ D)) else Q (some (.int 0)) (pz_wf ad ix (cw dA ad B E π τ D))) := by
  rw [e28]
  simp only [pz_o_s, wf_gf hA, wf_gu hA, wf_pf hA, wf_il hA, wf_is hA, wf_rl hA, wf_rs hA, Option.map_some, Option.toList_some, Option.toList_none, List.cons_append, List.nil_append, List.length_cons, List.length_nil, Nat.reduceAdd, Nat.reduceLeDiff, Nat.zero_le, u2_e, Nat.reduceEqDiff, false_and, and_false, true_and, and_true, if_false, if_true, i10, i01, q28_0, q28_0n, q28_1, q28_4, q28_7, q28_8, q28_11z, q28_11o, q28_12, q28_12n, q28_13, q28_16, q28_19, q28_20, q28_23, q28_23n, q28_24, q28_27, q28_28, q28_31, q28_34, q28_35, q28_38, q28_39z, q28_39o, gu_M hm, gf_M0 hm, gf_M1 hm, gf_M2 hm, gf_M3 hm, gf_M4 hm, gf_M5 hm, gf_M6 hm, gf_M7 hm, gf_M8 hm, gf_M9 hm, gf_M10 hm, gf_M11 hm, gf_M12 hm, gf_M13 hm, gf_M14 hm, gu_P, hk, m81 hA hm, m19 hA, m82 hA hm, li_0_1, li_0_2, li_0_3, li_0_4, li_0_5, li_0_6, li_0_7, li_1_0, li_1_2, li_1_3, li_1_4, li_1_5, li_1_6, li_1_7, li_2_0, li_2_1, li_2_3, li_2_4, li_2_5, li_2_6, li_2_7, li_3_0, li_3_1, li_3_2, li_3_4, li_3_5, li_3_6, li_3_7, li_4_0, li_4_1, li_4_2, li_4_3, li_4_5, li_4_6, li_4_7, li_5_0, li_5_1, li_5_2, li_5_3, li_5_4, li_5_6, li_5_7, li_6_0, li_6_1, li_6_2, li_6_3, li_6_4, li_6_5, li_6_7, li_7_0, li_7_1, li_7_2, li_7_3, li_7_4, li_7_5, li_7_6]
set_option maxHeartbeats 400000 in
set_option maxRecDepth 20000 in
theorem m28_6 (hA : ∀ i, ix (ad i) = i) {m : Nat} (hm : m < 25) (hk : E m 0 = 6) : pz_C dA (d + 1) 28 [.ref (ad 0), .ref (ad (60 + m))] (pz_wf ad ix (cw dA ad B E π τ D)) Q = (if ctc B = true then Q (some (.int 1)) (pz_wf ad ix (cw dA ad B E π τ D)) else Q (some (.int 0)) (pz_wf ad ix (cw dA ad B E π τ D))) := by
  rw [e28]
  simp only [pz_o_s, wf_gf hA, wf_gu hA, wf_pf hA, wf_il hA, wf_is hA, wf_rl hA, wf_rs hA, Option.map_some, Option.toList_some, Option.toList_none, List.cons_append, List.nil_append, List.length_cons, List.length_nil, Nat.reduceAdd, Nat.reduceLeDiff, Nat.zero_le, u2_e, Nat.reduceEqDiff, false_and, and_false, true_and, and_true, if_false, if_true, i10, i01, q28_0, q28_0n, q28_1, q28_4, q28_7, q28_8, q28_11z, q28_11o, q28_12, q28_12n, q28_13, q28_16, q28_19, q28_20, q28_23, q28_23n, q28_24, q28_27, q28_28, q28_31, q28_34, q28_35, q28_38, q28_39z, q28_39o, gu_M hm, gf_M0 hm, gf_M1 hm, gf_M2 hm, gf_M3 hm, gf_M4 hm, gf_M5 hm, gf_M6 hm, gf_M7 hm, gf_M8 hm, gf_M9 hm, gf_M10 hm, gf_M11 hm, gf_M12 hm, gf_M13 hm, gf_M14 hm, gu_P, hk, m81 hA hm, m19 hA, m82 hA hm, li_0_1, li_0_2, li_0_3, li_0_4, li_0_5, li_0_6, li_0_7, li_1_0, li_1_2, li_1_3, li_1_4, li_1_5, li_1_6, li_1_7, li_2_0, li_2_1, li_2_3, li_2_4, li_2_5, li_2_6, li_2_7, li_3_0, li_3_1, li_3_2, li_3_4, li_3_5, li_3_6, li_3_7, li_4_0, li_4_1, li_4_2, li_4_3, li_4_5, li_4_6, li_4_7, li_5_0, li_5_1, li_5_2, li_5_3, li_5_4, li_5_6, li_5_7, li_6_0, li_6_1, li_6_2, li_6_3, li_6_4, li_6_5, li_6_7, li_7_0, li_7_1, li_7_2, li_7_3, li_7_4, li_7_5, li_7_6]
set_option maxHeartbeats 400000 in
set_option maxRecDepth 20000 in
theorem m28_1 (hA : ∀ i, ix (ad i) = i) {m : Nat} (hm : m < 25) (hk : E m 0 = 1) : pz_C dA (d + 1) 28 [.ref (ad 0), .ref (ad (60 + m))] (pz_wf ad ix (cw dA ad B E π τ D)) Q = (Q (some (.int 1)) (pz_wf ad ix (cw dA ad B E π τ D))) := by
  rw [e28]
  simp only [pz_o_s, wf_gf hA, wf_gu hA, wf_pf hA, wf_il hA, wf_is hA, wf_rl hA, wf_rs hA, Option.map_some, Option.toList_some, Option.toList_none, List.cons_append, List.nil_append, List.length_cons, List.length_nil, Nat.reduceAdd, Nat.reduceLeDiff, Nat.zero_le, u2_e, Nat.reduceEqDiff, false_and, and_false, true_and, and_true, if_false, if_true, i10, i01, q28_0, q28_0n, q28_1, q28_4, q28_7, q28_8, q28_11z, q28_11o, q28_12, q28_12n, q28_13, q28_16, q28_19, q28_20, q28_23, q28_23n, q28_24, q28_27, q28_28, q28_31, q28_34, q28_35, q28_38, q28_39z, q28_39o, gu_M hm, gf_M0 hm, gf_M1 hm, gf_M2 hm, gf_M3 hm, gf_M4 hm, gf_M5 hm, gf_M6 hm, gf_M7 hm, gf_M8 hm, gf_M9 hm, gf_M10 hm, gf_M11 hm, gf_M12 hm, gf_M13 hm, gf_M14 hm, gu_P, hk, m81 hA hm, m82 hA hm, li_0_1, li_0_2, li_0_3, li_0_4, li_0_5, li_0_6, li_0_7, li_1_0, li_1_2, li_1_3, li_1_4, li_1_5, li_1_6, li_1_7, li_2_0, li_2_1, li_2_3, li_2_4, li_2_5, li_2_6, li_2_7, li_3_0, li_3_1, li_3_2, li_3_4, li_3_5, li_3_6, li_3_7, li_4_0, li_4_1, li_4_2, li_4_3, li_4_5, li_4_6, li_4_7, li_5_0, li_5_1, li_5_2, li_5_3, li_5_4, li_5_6, li_5_7, li_6_0, li_6_1, li_6_2, li_6_3, li_6_4, li_6_5, li_6_7, li_7_0, li_7_1, li_7_2, li_7_3, li_7_4, li_7_5, li_7_6]
set_option maxHeartbeats 400000 in
set_option maxRecDepth 20000 in
theorem m28_2 (hA : ∀ i, ix (ad i) = i) {m : Nat} (hm : m < 25) (hk : E m 0 = 2) : pz_C dA (d + 1) 28 [.ref (ad 0), .ref (ad (60 + m))] (pz_wf ad ix (cw dA ad B E π τ D)) Q = (Q (some (.int 1)) (pz_wf ad ix (cw dA ad B E π τ D))) := by
  rw [e28]
  simp only [pz_o_s, wf_gf hA, wf_gu hA, wf_pf hA, wf_il hA, wf_is hA, wf_rl hA, wf_rs hA, Option.map_some, Option.toList_some, Option.toList_none, List.cons_append, List.nil_append, List.length_cons, List.length_nil, Nat.reduceAdd, Nat.reduceLeDiff, Nat.zero_le, u2_e, Nat.reduceEqDiff, false_and, and_false, true_and, and_true, if_false, if_true, i10, i01, q28_0, q28_0n, q28_1, q28_4, q28_7, q28_8, q28_11z, q28_11o, q28_12, q28_12n, q28_13, q28_16, q28_19, q28_20, q28_23, q28_23n, q28_24, q28_27, q28_28, q28_31, q28_34, q28_35, q28_38, q28_39z, q28_39o, gu_M hm, gf_M0 hm, gf_M1 hm, gf_M2 hm, gf_M3 hm, gf_M4 hm, gf_M5 hm, gf_M6 hm, gf_M7 hm, gf_M8 hm, gf_M9 hm, gf_M10 hm, gf_M11 hm, gf_M12 hm, gf_M13 hm, gf_M14 hm, gu_P, hk, m81 hA hm, m82 hA hm, li_0_1, li_0_2, li_0_3, li_0_4, li_0_5, li_0_6, li_0_7, li_1_0, li_1_2, li_1_3, li_1_4, li_1_5, li_1_6, li_1_7, li_2_0, li_2_1, li_2_3, li_2_4, li_2_5, li_2_6, li_2_7, li_3_0, li_3_1, li_3_2, li_3_4, li_3_5, li_3_6, li_3_7, li_4_0, li_4_1, li_4_2, li_4_3, li_4_5, li_4_6, li_4_7, li_5_0, li_5_1, li_5_2, li_5_3, li_5_4, li_5_6, li_5_7, li_6_0, li_6_1, li_6_2, li_6_3, li_6_4, li_6_5, li_6_7, li_7_0, li_7_1, li_7_2, li_7_3, li_7_4, li_7_5, li_7_6]
set_option maxHeartbeats 400000 in
set_option maxRecDepth 20000 in
theorem m28_0 (hA : ∀ i, ix (ad i) = i) {m : Nat} (hm : m < 25) {s : Nat} (hs : s < 2) (hk : E m 0 = 0) (he : E m 2 = nI s) : pz_C dA (d + 1) 28 [.ref (ad 0), .ref (ad (60 + m))] (pz_wf ad ix (cw dA ad B E π τ D)) Q = (if B 2 s = 0 then Q (some (.int 0)) (pz_wf ad ix (cw dA ad B E π τ D)) else Q (some (.int 1)) (pz_wf ad ix (cw dA ad B E π τ D))) := by
  rw [e28]
  simp only [pz_o_s, wf_gf hA, wf_gu hA, wf_pf hA, wf_il hA, wf_is hA, wf_rl hA, wf_rs hA, Option.map_some, Option.toList_some, Option.toList_none, List.cons_append, List.nil_append, List.length_cons, List.length_nil, Nat.reduceAdd, Nat.reduceLeDiff, Nat.zero_le, u2_e, Nat.reduceEqDiff, false_and, and_false, true_and, and_true, if_false, if_true, i10, i01, q28_0, q28_0n, q28_1, q28_4, q28_7, q28_8, q28_11z, q28_11o, q28_12, q28_12n, q28_13, q28_16, q28_19, q28_20, q28_23, q28_23n, q28_24, q28_27, q28_28, q28_31, q28_34, q28_35, q28_38, q28_39z, q28_39o, gu_M hm, gf_M0 hm, gf_M1 hm, gf_M2 hm, gf_M3 hm, gf_M4 hm, gf_M5 hm, gf_M6 hm, gf_M7 hm, gf_M8 hm, gf_M9 hm, gf_M10 hm, gf_M11 hm, gf_M12 hm, gf_M13 hm, gf_M14 hm, gu_P, gf_P0, gf_P1, gf_P2, gf_P3, gf_P4, pf_P0, pf_P1, gu_S hs, gf_S0 hs, gf_S1 hs, gf_S2 hs, gf_S3 hs, gf_S4 hs, gf_S5 hs, gf_S6 hs, pf_S2 hs, pf_S3 hs, pf_S4 hs, pf_S5 hs, pf_S6 hs, hk, he, m81 hA hm, m82 hA hm, rl_1 hs, li_0_1, li_0_2, li_0_3, li_0_4, li_0_5, li_0_6, li_0_7, li_1_0, li_1_2, li_1_3, li_1_4, li_1_5, li_1_6, li_1_7, li_2_0, li_2_1, li_2_3, li_2_4, li_2_5, li_2_6, li_2_7, li_3_0, li_3_1, li_3_2, li_3_4, li_3_5, li_3_6, li_3_7, li_4_0, li_4_1, li_4_2, li_4_3, li_4_5, li_4_6, li_4_7, li_5_0, li_5_1, li_5_2, li_5_3, li_5_4, li_5_6, li_5_7, li_6_0, li_6_1, li_6_2, li_6_3, li_6_4, li_6_5, li_6_7, li_7_0, li_7_1, li_7_2, li_7_3, li_7_4, li_7_5, li_7_6]
set_option maxHeartbeats 400000 in
set_option maxRecDepth 20000 in
theorem m28_3 (hA : ∀ i, ix (ad i) = i) {m : Nat} (hm : m < 25) {s : Nat} (hs : s < 2) (hk : E m 0 = 3) (he : E m 2 = nI s) : pz_C dA (d + 1) 28 [.ref (ad 0), .ref (ad (60 + m))] (pz_wf ad ix (cw dA ad B E π τ D)) Q = (if B 2 s = 0 then Q (some (.int 0)) (pz_wf ad ix (cw dA ad B E π τ D)) else Q (some (.int 1)) (pz_wf ad ix (cw dA ad B E π τ D))) := by
  rw [e28]
  simp only [pz_o_s, wf_gf hA, wf_gu hA, wf_pf hA, wf_il hA, wf_is hA, wf_rl hA, wf_rs hA, Option.map_some, Option.toList_some, Option.toList_none, List.cons_append, List.nil_append, List.length_cons, List.length_nil, Nat.reduceAdd, Nat.reduceLeDiff, Nat.zero_le, u2_e, Nat.reduceEqDiff, false_and, and_false, true_and, and_true, if_false, if_true, i10, i01, q28_0, q28_0n, q28_1, q28_4, q28_7, q28_8, q28_11z, q28_11o, q28_12, q28_12n, q28_13, q28_16, q28_19, q28_20, q28_23, q28_23n, q28_24, q28_27, q28_28, q28_31, q28_34, q28_35, q28_38, q28_39z, q28_39o, gu_M hm, gf_M0 hm, gf_M1 hm, gf_M2 hm, gf_M3 hm, gf_M4 hm, gf_M5 hm, gf_M6 hm, gf_M7 hm, gf_M8 hm, gf_M9 hm, gf_M10 hm, gf_M11 hm, gf_M12 hm, gf_M13 hm, gf_M14 hm, gu_P, gf_P0, gf_P1, gf_P2, gf_P3, gf_P4, pf_P0, pf_P1, gu_S hs, gf_S0 hs, gf_S1 hs, gf_S2 hs, gf_S3 hs, gf_S4 hs, gf_S5 hs, gf_S6 hs, pf_S2 hs, pf_S3 hs, pf_S4 hs, pf_S5 hs, pf_S6 hs, hk, he, m81 hA hm, m82 hA hm, rl_1 hs, li_0_1, li_0_2, li_0_3, li_0_4, li_0_5, li_0_6, li_0_7, li_1_0, li_1_2, li_1_3, li_1_4, li_1_5, li_1_6, li_1_7, li_2_0, li_2_1, li_2_3, li_2_4, li_2_5, li_2_6, li_2_7, li_3_0, li_3_1, li_3_2, li_3_4, li_3_5, li_3_6, li_3_7, li_4_0, li_4_1, li_4_2, li_4_3, li_4_5, li_4_6, li_4_7, li_5_0, li_5_1, li_5_2, li_5_3, li_5_4, li_5_6, li_5_7, li_6_0, li_6_1, li_6_2, li_6_3, li_6_4, li_6_5, li_6_7, li_7_0, li_7_1, li_7_2, li_7_3, li_7_4, li_7_5, li_7_6]
def aAsk (π : Nat → Nat) (s : Nat) (e : Nat → Int32) (x : BE) : BE := if srv x.1 s = true then (if chs x.1 s (e 1) (x.1 0 0) = -1 then (pB x.1, pE x.1 x.2 π [(0, 2), (1, e 2), (2, e 1), (3, x.1 0 0), (4, e 4)]) else
  (pB (b_lnd x.1 (6 * s + (chs x.1 s (e 1) (x.1 0 0)).toNatClampNeg) (e 1) (x.1 0 0) (bi (x.1 2 s = 3))), pE (b_lnd x.1 (6 * s + (chs x.1 s (e 1) (x.1 0 0)).toNatClampNeg) (e 1) (x.1 0 0) (bi (x.1 2 s = 3))) x.2 π [(0, 1), (1, e 2), (2, e 1), (3, x.1 0 0), (4, e 4), (5, chs x.1 s (e 1) (x.1 0 0)), (8, b_lnd x.1 (6 * s + (chs x.1 s (e 1) (x.1 0 0)).toNatClampNeg) (e 1) (x.1 0 0) (bi (x.1 2 s = 3)) 9 (6 * s + (chs x.1 s (e 1) (x.1 0 0)).toNatClampNeg))])) else x
set_option maxHeartbeats 400000 in
set_option maxRecDepth 20000 in
theorem m30 (hA : ∀ i, ix (ad i) = i) {n : Nat} (hn : n ≤ 24) (hp : ∀ j, π j < 25) {m : Nat} (hm : m < 25) {s : Nat} (hs : s < 2) (he : E m 2 = nI s) (hc : B 20 0 = nI n) : pz_C dA (d + 3) 30 [.ref (ad 0), .ref (ad (60 + m))] (pz_wf ad ix (cw dA ad B E π τ D)) Q = Q none (pz_wf ad ix (cw dA ad (aAsk π s (E m) (B, E)).1 (aAsk π s (E m) (B, E)).2 π τ D)) := by
  rw [e30]
  rcases chs_r B s (E m 1) (B 0 0) with h | ⟨j, hj, h⟩
  · simp only [pz_o_s, wf_gf hA, wf_gu hA, wf_pf hA, wf_il hA, wf_is hA, wf_rl hA, wf_rs hA, Option.map_some, Option.toList_some, Option.toList_none, List.cons_append, List.nil_append, List.length_cons, List.length_nil, Nat.reduceAdd, Nat.reduceLeDiff, Nat.zero_le, u2_e, Nat.reduceEqDiff, false_and, and_false, true_and, and_true, if_false, if_true, i10, i01, q30_0, q30_1, q30_4, q30_4n, q30_5, q30_8, q30_9, q30_9n, q30_10, q30_10n, q30_11, q30_14, q30_17, q30_18, q30_18n, q30_19, q30_19n, q30_20, q30_23, q30_24, q30_27, q30_30, q30_31, q30_32, q30_33, q30_36, q30_37, q30_38, q30_38n, q30_39, q30_42, q30_42n, q30_43, q30_46, q30_46n, q30_47, q30_50, q30_53, q30_54, q30_54n, q30_55, q30_58, q30_59, q30_60, q30_60n, q30_62, q30_62n, q30_64, q30_64n, q30_65, q30_68, q30_69, q30_72, q30_72n, q30_73, q30_76, q30_77, q30_80, q30_81, q30_84, q30_85, q30_88, q30_89, q30_89n, q30_90, q30_91, q30_91n, q30_93, q30_96, q30_99, gu_P, gf_P0, gf_P1, gf_P2, gf_P3, gf_P4, pf_P0, pf_P1, gu_S hs, gf_S0 hs, gf_S1 hs, gf_S2 hs, gf_S3 hs, gf_S4 hs, gf_S5 hs, gf_S6 hs, pf_S2 hs, pf_S3 hs, pf_S4 hs, pf_S5 hs, pf_S6 hs, gu_M hm, gf_M0 hm, gf_M1 hm, gf_M2 hm, gf_M3 hm, gf_M4 hm, gf_M5 hm, gf_M6 hm, gf_M7 hm, gf_M8 hm, gf_M9 hm, gf_M10 hm, gf_M11 hm, gf_M12 hm, gf_M13 hm, gf_M14 hm, he, rl_1 hs, m36s hA hs, m44 hA hs, h, m25 hA hn hp hc]
    by_cases h1 : srv B s = true
    · simp only [aAsk, h1, h, he, if_true]
    · simp only [aAsk, h1, if_false, Bool.false_eq_true]
  · have hb : ∀ al, b_lnd B (6 * s + j) (E m 1) (B 0 0) al 20 0 = nI n := fun al => by rw [b_lnd_k (by omega)]; exact hc
    simp only [pz_o_s, wf_gf hA, wf_gu hA, wf_pf hA, wf_il hA, wf_is hA, wf_rl hA, wf_rs hA, Option.map_some, Option.toList_some, Option.toList_none, List.cons_append, List.nil_append, List.length_cons, List.length_nil, Nat.reduceAdd, Nat.reduceLeDiff, Nat.zero_le, u2_e, Nat.reduceEqDiff, false_and, and_false, true_and, and_true, if_false, if_true, i10, i01, q30_0, q30_1, q30_4, q30_4n, q30_5, q30_8, q30_9, q30_9n, q30_10, q30_10n, q30_11, q30_14, q30_17, q30_18, q30_18n, q30_19, q30_19n, q30_20, q30_23, q30_24, q30_27, q30_30, q30_31, q30_32, q30_33, q30_36, q30_37, q30_38, q30_38n, q30_39, q30_42, q30_42n, q30_43, q30_46, q30_46n, q30_47, q30_50, q30_53, q30_54, q30_54n, q30_55, q30_58, q30_59, q30_60, q30_60n, q30_62, q30_62n, q30_64, q30_64n, q30_65, q30_68, q30_69, q30_72, q30_72n, q30_73, q30_76, q30_77, q30_80, q30_81, q30_84, q30_85, q30_88, q30_89, q30_89n, q30_90, q30_91, q30_91n, q30_93, q30_96, q30_99, gu_P, gf_P0, gf_P1, gf_P2, gf_P3, gf_P4, pf_P0, pf_P1, gu_S hs, gf_S0 hs, gf_S1 hs, gf_S2 hs, gf_S3 hs, gf_S4 hs, gf_S5 hs, gf_S6 hs, pf_S2 hs, pf_S3 hs, pf_S4 hs, pf_S5 hs, pf_S6 hs, gu_M hm, gf_M0 hm, gf_M1 hm, gf_M2 hm, gf_M3 hm, gf_M4 hm, gf_M5 hm, gf_M6 hm, gf_M7 hm, gf_M8 hm, gf_M9 hm, gf_M10 hm, gf_M11 hm, gf_M12 hm, gf_M13 hm, gf_M14 hm, he, rl_1 hs, m36s hA hs, m44 hA hs, h, nm1 (show j < 100 by omega), rl_12 hs hj, m54 hA (show 6 * s + j < 12 by omega), gu_R (show 6 * s + j < 12 by omega), gf_R0 (show 6 * s + j < 12 by omega), gf_R1 (show 6 * s + j < 12 by omega), gf_R2 (show 6 * s + j < 12 by omega), gf_R3 (show 6 * s + j < 12 by omega), gf_R4 (show 6 * s + j < 12 by omega), gf_R5 (show 6 * s + j < 12 by omega), gf_R6 (show 6 * s + j < 12 by omega), gf_R7 (show 6 * s + j < 12 by omega), b_lnd_k (show 0 < 7 ∨ 14 < 0 by decide), m26 hA hn hp hm (hb 0), m26 hA hn hp hm (hb 1)]
    have h9 : (nI j).toNatClampNeg = j := nI_clamp (by omega)
    have h8 := nm1 (show j < 100 by omega)
    by_cases h1 : srv B s = true
    · by_cases h3 : B 2 s = 3
      · simp only [aAsk, h1, h9, h, h8, h3, he, bi, if_true, if_false, b_lnd_k (show 0 < 7 ∨ 14 < 0 by decide)]
      · simp only [aAsk, h1, h9, h, h8, h3, he, bi, if_true, if_false, b_lnd_k (show 0 < 7 ∨ 14 < 0 by decide)]
    · simp only [aAsk, h1, if_false, Bool.false_eq_true]
set_option maxHeartbeats 400000 in
set_option maxRecDepth 20000 in
theorem m31 (hA : ∀ i, ix (ad i) = i) {m : Nat} (hm : m < 25) {s : Nat} (hs : s < 2) (he : E m 2 = nI s) {a : Nat} (ha : a < 6) (hea : E m 5 = nI a) : pz_C dA (d + 2) 31 [.ref (ad 0), .ref (ad (60 + m))] (pz_wf ad ix (cw dA ad B E π τ D)) Q = (if srv B s = true ∧ B 7 (6 * s + a) = 1 ∧ B 8 (6 * s + a) = E m 1 then Q none (pz_wf ad ix (cw dA ad (b_end B (6 * s + a)) E π τ D)) else Q none (pz_wf ad ix (cw dA ad B E π τ D))) := by
  rw [e31]
  simp only [pz_o_s, wf_gf hA, wf_gu hA, wf_pf hA, wf_il hA, wf_is hA, wf_rl hA, wf_rs hA, Option.map_some, Option.toList_some, Option.toList_none, List.cons_append, List.nil_append, List.length_cons, List.length_nil, Nat.reduceAdd, Nat.reduceLeDiff, Nat.zero_le, u2_e, Nat.reduceEqDiff, false_and, and_false, true_and, and_true, if_false, if_true, i10, i01, q31_0, q31_1, q31_4, q31_4n, q31_5, q31_8, q31_9, q31_9n, q31_10, q31_10n, q31_11, q31_14, q31_14n, q31_15, q31_18, q31_19, q31_19n, q31_20, q31_20n, q31_21, q31_24, q31_27, q31_27n, q31_28, q31_28n, q31_29, q31_32, q31_35, q31_38, q31_38n, q31_39, q31_42, gu_P, gf_P0, gf_P1, gf_P2, gf_P3, gf_P4, pf_P0, pf_P1, gu_S hs, gf_S0 hs, gf_S1 hs, gf_S2 hs, gf_S3 hs, gf_S4 hs, gf_S5 hs, gf_S6 hs, pf_S2 hs, pf_S3 hs, pf_S4 hs, pf_S5 hs, pf_S6 hs, gu_M hm, gf_M0 hm, gf_M1 hm, gf_M2 hm, gf_M3 hm, gf_M4 hm, gf_M5 hm, gf_M6 hm, gf_M7 hm, gf_M8 hm, gf_M9 hm, gf_M10 hm, gf_M11 hm, gf_M12 hm, gf_M13 hm, gf_M14 hm, he, hea, rl_1 hs, rl_12 hs ha, m36s hA hs, m50 hA (show 6 * s + a < 12 by omega), m53 hA (show 6 * s + a < 12 by omega), gu_R (show 6 * s + a < 12 by omega), gf_R0 (show 6 * s + a < 12 by omega), gf_R1 (show 6 * s + a < 12 by omega), gf_R2 (show 6 * s + a < 12 by omega), gf_R3 (show 6 * s + a < 12 by omega), gf_R4 (show 6 * s + a < 12 by omega), gf_R5 (show 6 * s + a < 12 by omega), gf_R6 (show 6 * s + a < 12 by omega), gf_R7 (show 6 * s + a < 12 by omega)]
  by_cases h1 : srv B s = true <;> by_cases h2 : B 7 (6 * s + a) = 1 <;> by_cases h3 : B 8 (6 * s + a) = E m 1 <;> simp [h1, h2, h3]
set_option maxHeartbeats 400000 in
set_option maxRecDepth 20000 in
theorem m33 (hA : ∀ i, ix (ad i) = i) {m : Nat} (hm : m < 25) {s : Nat} (hs : s < 2) (he : E m 2 = nI s) {a : Nat} (ha : a < 6) (hea : E m 5 = nI a) : pz_C dA (d + 2) 33 [.ref (ad 0), .ref (ad (60 + m))] (pz_wf ad ix (cw dA ad B E π τ D)) Q = (if srv B s = true then Q none (pz_wf ad ix (cw dA ad (b_ack B (6 * s + a) (E m 9) (E m 10) (E m 11)) E π τ D)) else Q none (pz_wf ad ix (cw dA ad B E π τ D))) := by
  rw [e33]
  simp only [pz_o_s, wf_gf hA, wf_gu hA, wf_pf hA, wf_il hA, wf_is hA, wf_rl hA, wf_rs hA, Option.map_some, Option.toList_some, Option.toList_none, List.cons_append, List.nil_append, List.length_cons, List.length_nil, Nat.reduceAdd, Nat.reduceLeDiff, Nat.zero_le, u2_e, Nat.reduceEqDiff, false_and, and_false, true_and, and_true, if_false, if_true, i10, i01, q33_0, q33_1, q33_4, q33_4n, q33_5, q33_8, q33_9, q33_9n, q33_10, q33_10n, q33_11, q33_14, q33_17, q33_17n, q33_18, q33_21, q33_21n, q33_22, q33_25, q33_26, q33_26n, q33_27, q33_30, gu_P, gf_P0, gf_P1, gf_P2, gf_P3, gf_P4, pf_P0, pf_P1, gu_S hs, gf_S0 hs, gf_S1 hs, gf_S2 hs, gf_S3 hs, gf_S4 hs, gf_S5 hs, gf_S6 hs, pf_S2 hs, pf_S3 hs, pf_S4 hs, pf_S5 hs, pf_S6 hs, gu_M hm, gf_M0 hm, gf_M1 hm, gf_M2 hm, gf_M3 hm, gf_M4 hm, gf_M5 hm, gf_M6 hm, gf_M7 hm, gf_M8 hm, gf_M9 hm, gf_M10 hm, gf_M11 hm, gf_M12 hm, gf_M13 hm, gf_M14 hm, he, hea, rl_1 hs, rl_12 hs ha, m36s hA hs, m62 hA (show 6 * s + a < 12 by omega) hm, gu_R (show 6 * s + a < 12 by omega), gf_R0 (show 6 * s + a < 12 by omega), gf_R1 (show 6 * s + a < 12 by omega), gf_R2 (show 6 * s + a < 12 by omega), gf_R3 (show 6 * s + a < 12 by omega), gf_R4 (show 6 * s + a < 12 by omega), gf_R5 (show 6 * s + a < 12 by omega), gf_R6 (show 6 * s + a < 12 by omega), gf_R7 (show 6 * s + a < 12 by omega)]
def aDem (s : Nat) (e : Nat → Int32) (B : Nat → Nat → Int32) : Nat → Nat → Int32 := if srv B s = true then (if lp (b_drt s (e 13)) 6 0 (u2 B 5 s (e 12)) 2 s = 3 then u2 (lp (b_drt s (e 13)) 6 0 (u2 B 5 s (e 12))) 2 s 1 else lp (b_drt s (e 13)) 6 0 (u2 B 5 s (e 12))) else B
set_option maxHeartbeats 400000 in
set_option maxRecDepth 20000 in
theorem m34 (hA : ∀ i, ix (ad i) = i) {m : Nat} (hm : m < 25) {s : Nat} (hs : s < 2) (he : E m 2 = nI s) : pz_C dA (d + 2) 34 [.ref (ad 0), .ref (ad (60 + m))] (pz_wf ad ix (cw dA ad B E π τ D)) Q = (Q none (pz_wf ad ix (cw dA ad (aDem s (E m) B) E π τ D))) := by
  rw [e34]
  simp only [pz_o_s, wf_gf hA, wf_gu hA, wf_pf hA, wf_il hA, wf_is hA, wf_rl hA, wf_rs hA, Option.map_some, Option.toList_some, Option.toList_none, List.cons_append, List.nil_append, List.length_cons, List.length_nil, Nat.reduceAdd, Nat.reduceLeDiff, Nat.zero_le, u2_e, Nat.reduceEqDiff, false_and, and_false, true_and, and_true, if_false, if_true, i10, i01, q34_0, q34_1, q34_4, q34_4n, q34_5, q34_8, q34_9, q34_9n, q34_10, q34_10n, q34_11, q34_14, q34_17, q34_18, q34_18n, q34_19, q34_19n, q34_20, q34_23, q34_26, q34_26n, q34_27, q34_27n, q34_28, q34_31, q34_34, q34_34n, q34_35, q34_38, q34_39, q34_42, q34_42n, q34_43, q34_44, q34_47, gu_P, gf_P0, gf_P1, gf_P2, gf_P3, gf_P4, pf_P0, pf_P1, gu_S hs, gf_S0 hs, gf_S1 hs, gf_S2 hs, gf_S3 hs, gf_S4 hs, gf_S5 hs, gf_S6 hs, pf_S2 hs, pf_S3 hs, pf_S4 hs, pf_S5 hs, pf_S6 hs, gu_M hm, gf_M0 hm, gf_M1 hm, gf_M2 hm, gf_M3 hm, gf_M4 hm, gf_M5 hm, gf_M6 hm, gf_M7 hm, gf_M8 hm, gf_M9 hm, gf_M10 hm, gf_M11 hm, gf_M12 hm, gf_M13 hm, gf_M14 hm, he, rl_1 hs, m36s hA hs, m43 hA hs]
  by_cases h1 : srv B s = true
  · by_cases h2 : lp (b_drt s (E m 13)) 6 0 (u2 B 5 s (E m 12)) 2 s = 3
    · simp only [aDem, h1, h2, if_true]
    · simp only [aDem, h1, h2, if_true, if_false]
  · simp only [aDem, h1, if_false, Bool.false_eq_true]
def alist (e : Nat → Int32) (t : Int32) : List (Nat × Int32) := [(0, 5), (1, e 2), (2, e 1), (3, t), (5, e 5), (9, e 9), (10, e 10), (11, e 11)]
def aUpd (π : Nat → Nat) (s a : Nat) (e : Nat → Int32) (x : BE) : BE := match tuA x.1 s a (x.1 0 0) (e 6) (e 7) (e 8) (e 9) (e 11) (e 12) with
  | some B => (pB B, pE B x.2 π (alist e (x.1 0 0)))
  | none => x
set_option maxHeartbeats 400000 in
set_option maxRecDepth 20000 in
theorem m32 (hA : ∀ i, ix (ad i) = i) {n : Nat} (hn : n ≤ 24) (hp : ∀ j, π j < 25) {m : Nat} (hm : m < 25) {s : Nat} (hs : s < 2) (he : E m 2 = nI s) {a : Nat} (ha : a < 6) (hea : E m 5 = nI a) (hc : B 20 0 = nI n) : pz_C dA (d + 4) 32 [.ref (ad 0), .ref (ad (60 + m))] (pz_wf ad ix (cw dA ad B E π τ D)) Q = Q none (pz_wf ad ix (cw dA ad (aUpd π s a (E m) (B, E)).1 (aUpd π s a (E m) (B, E)).2 π τ D)) := by
  rw [e32]
  simp only [pz_o_s, wf_gf hA, wf_gu hA, wf_pf hA, wf_il hA, wf_is hA, wf_rl hA, wf_rs hA, Option.map_some, Option.toList_some, Option.toList_none, List.cons_append, List.nil_append, List.length_cons, List.length_nil, Nat.reduceAdd, Nat.reduceLeDiff, Nat.zero_le, u2_e, Nat.reduceEqDiff, false_and, and_false, true_and, and_true, if_false, if_true, i10, i01, q32_0, q32_1, q32_4, q32_4n, q32_5, q32_8, q32_9, q32_9n, q32_10, q32_11, q32_14, q32_17, q32_20, q32_21, q32_21n, q32_22, q32_25, gu_P, gf_P0, gf_P1, gf_P2, gf_P3, gf_P4, pf_P0, pf_P1, gu_S hs, gf_S0 hs, gf_S1 hs, gf_S2 hs, gf_S3 hs, gf_S4 hs, gf_S5 hs, gf_S6 hs, pf_S2 hs, pf_S3 hs, pf_S4 hs, pf_S5 hs, pf_S6 hs, gu_M hm, gf_M0 hm, gf_M1 hm, gf_M2 hm, gf_M3 hm, gf_M4 hm, gf_M5 hm, gf_M6 hm, gf_M7 hm, gf_M8 hm, gf_M9 hm, gf_M10 hm, gf_M11 hm, gf_M12 hm, gf_M13 hm, gf_M14 hm, he, rl_1 hs, m41 hA hs ha hm hea]
  unfold aUpd
  dsimp only
  generalize hz : tuA B s a (B 0 0) (E m 6) (E m 7) (E m 8) (E m 9) (E m 11) (E m 12) = z
  cases z with
  | none => simp only [oq_n]
  | some B2 =>
    have h0 : B2 0 0 = B 0 0 := tuA_k (by decide) hz
    have h1 : B2 20 0 = nI n := by rw [tuA_k (by decide) hz]; exact hc
    simp only [pz_o_s, wf_gf hA, wf_gu hA, wf_pf hA, wf_il hA, wf_is hA, wf_rl hA, wf_rs hA, Option.map_some, Option.toList_some, Option.toList_none, List.cons_append, List.nil_append, List.length_cons, List.length_nil, Nat.reduceAdd, Nat.reduceLeDiff, Nat.zero_le, u2_e, Nat.reduceEqDiff, false_and, and_false, true_and, and_true, if_false, if_true, i10, i01, q32_0, q32_1, q32_4, q32_4n, q32_5, q32_8, q32_9, q32_9n, q32_10, q32_11, q32_14, q32_17, q32_20, q32_21, q32_21n, q32_22, q32_25, gu_P, oq_s, m27 hA hn hp hm h1, h0]
    rfl
end OM
