/-! the methods of the reference: leaves -/
theorem il_2_0 {dA ad : Nat → Nat} {B E D : Nat → Nat → Int32} {π : Nat → Nat} {τ : Nat} : pz_il (dA 0) (cw dA ad B E π τ D) 102 0 = some (D 2 0) := il_2 (i := 0) (by decide)
theorem is_2_0 {dA ad : Nat → Nat} {B E D : Nat → Nat → Int32} {π : Nat → Nat} {τ : Nat} {v : Int32} : pz_is (dA 0) (cw dA ad B E π τ D) 102 0 v = some (cw dA ad B E π τ (u2 D 2 0 v)) := is_2 (i := 0) (by decide)
theorem il_2_1 {dA ad : Nat → Nat} {B E D : Nat → Nat → Int32} {π : Nat → Nat} {τ : Nat} : pz_il (dA 0) (cw dA ad B E π τ D) 102 1 = some (D 2 1) := il_2 (i := 1) (by decide)
theorem is_2_1 {dA ad : Nat → Nat} {B E D : Nat → Nat → Int32} {π : Nat → Nat} {τ : Nat} {v : Int32} : pz_is (dA 0) (cw dA ad B E π τ D) 102 1 v = some (cw dA ad B E π τ (u2 D 2 1 v)) := is_2 (i := 1) (by decide)
theorem il_22_0 {dA ad : Nat → Nat} {B E D : Nat → Nat → Int32} {π : Nat → Nat} {τ : Nat} : pz_il (dA 0) (cw dA ad B E π τ D) 122 0 = some (D 22 0) := il_22 (i := 0) (by decide)
theorem is_22_0 {dA ad : Nat → Nat} {B E D : Nat → Nat → Int32} {π : Nat → Nat} {τ : Nat} {v : Int32} : pz_is (dA 0) (cw dA ad B E π τ D) 122 0 v = some (cw dA ad B E π τ (u2 D 22 0 v)) := is_22 (i := 0) (by decide)
theorem il_22_1 {dA ad : Nat → Nat} {B E D : Nat → Nat → Int32} {π : Nat → Nat} {τ : Nat} : pz_il (dA 0) (cw dA ad B E π τ D) 122 1 = some (D 22 1) := il_22 (i := 1) (by decide)
theorem is_22_1 {dA ad : Nat → Nat} {B E D : Nat → Nat → Int32} {π : Nat → Nat} {τ : Nat} {v : Int32} : pz_is (dA 0) (cw dA ad B E π τ D) 122 1 v = some (cw dA ad B E π τ (u2 D 22 1 v)) := is_22 (i := 1) (by decide)
theorem il_22_2 {dA ad : Nat → Nat} {B E D : Nat → Nat → Int32} {π : Nat → Nat} {τ : Nat} : pz_il (dA 0) (cw dA ad B E π τ D) 122 2 = some (D 22 2) := il_22 (i := 2) (by decide)
theorem is_22_2 {dA ad : Nat → Nat} {B E D : Nat → Nat → Int32} {π : Nat → Nat} {τ : Nat} {v : Int32} : pz_is (dA 0) (cw dA ad B E π τ D) 122 2 v = some (cw dA ad B E π τ (u2 D 22 2 v)) := is_22 (i := 2) (by decide)
theorem il_22_3 {dA ad : Nat → Nat} {B E D : Nat → Nat → Int32} {π : Nat → Nat} {τ : Nat} : pz_il (dA 0) (cw dA ad B E π τ D) 122 3 = some (D 22 3) := il_22 (i := 3) (by decide)
theorem is_22_3 {dA ad : Nat → Nat} {B E D : Nat → Nat → Int32} {π : Nat → Nat} {τ : Nat} {v : Int32} : pz_is (dA 0) (cw dA ad B E π τ D) 122 3 v = some (cw dA ad B E π τ (u2 D 22 3 v)) := is_22 (i := 3) (by decide)
theorem il_22_4 {dA ad : Nat → Nat} {B E D : Nat → Nat → Int32} {π : Nat → Nat} {τ : Nat} : pz_il (dA 0) (cw dA ad B E π τ D) 122 4 = some (D 22 4) := il_22 (i := 4) (by decide)
theorem is_22_4 {dA ad : Nat → Nat} {B E D : Nat → Nat → Int32} {π : Nat → Nat} {τ : Nat} {v : Int32} : pz_is (dA 0) (cw dA ad B E π τ D) 122 4 v = some (cw dA ad B E π τ (u2 D 22 4 v)) := is_22 (i := 4) (by decide)
theorem il_22_5 {dA ad : Nat → Nat} {B E D : Nat → Nat → Int32} {π : Nat → Nat} {τ : Nat} : pz_il (dA 0) (cw dA ad B E π τ D) 122 5 = some (D 22 5) := il_22 (i := 5) (by decide)
theorem is_22_5 {dA ad : Nat → Nat} {B E D : Nat → Nat → Int32} {π : Nat → Nat} {τ : Nat} {v : Int32} : pz_is (dA 0) (cw dA ad B E π τ D) 122 5 v = some (cw dA ad B E π τ (u2 D 22 5 v)) := is_22 (i := 5) (by decide)
theorem il_22_6 {dA ad : Nat → Nat} {B E D : Nat → Nat → Int32} {π : Nat → Nat} {τ : Nat} : pz_il (dA 0) (cw dA ad B E π τ D) 122 6 = some (D 22 6) := il_22 (i := 6) (by decide)
theorem is_22_6 {dA ad : Nat → Nat} {B E D : Nat → Nat → Int32} {π : Nat → Nat} {τ : Nat} {v : Int32} : pz_is (dA 0) (cw dA ad B E π τ D) 122 6 v = some (cw dA ad B E π τ (u2 D 22 6 v)) := is_22 (i := 6) (by decide)
theorem il_22_7 {dA ad : Nat → Nat} {B E D : Nat → Nat → Int32} {π : Nat → Nat} {τ : Nat} : pz_il (dA 0) (cw dA ad B E π τ D) 122 7 = some (D 22 7) := il_22 (i := 7) (by decide)
theorem is_22_7 {dA ad : Nat → Nat} {B E D : Nat → Nat → Int32} {π : Nat → Nat} {τ : Nat} {v : Int32} : pz_is (dA 0) (cw dA ad B E π τ D) 122 7 v = some (cw dA ad B E π τ (u2 D 22 7 v)) := is_22 (i := 7) (by decide)
theorem il_22_8 {dA ad : Nat → Nat} {B E D : Nat → Nat → Int32} {π : Nat → Nat} {τ : Nat} : pz_il (dA 0) (cw dA ad B E π τ D) 122 8 = some (D 22 8) := il_22 (i := 8) (by decide)
theorem is_22_8 {dA ad : Nat → Nat} {B E D : Nat → Nat → Int32} {π : Nat → Nat} {τ : Nat} {v : Int32} : pz_is (dA 0) (cw dA ad B E π τ D) 122 8 v = some (cw dA ad B E π τ (u2 D 22 8 v)) := is_22 (i := 8) (by decide)
theorem il_22_9 {dA ad : Nat → Nat} {B E D : Nat → Nat → Int32} {π : Nat → Nat} {τ : Nat} : pz_il (dA 0) (cw dA ad B E π τ D) 122 9 = some (D 22 9) := il_22 (i := 9) (by decide)
theorem is_22_9 {dA ad : Nat → Nat} {B E D : Nat → Nat → Int32} {π : Nat → Nat} {τ : Nat} {v : Int32} : pz_is (dA 0) (cw dA ad B E π τ D) 122 9 v = some (cw dA ad B E π τ (u2 D 22 9 v)) := is_22 (i := 9) (by decide)
theorem il_22_10 {dA ad : Nat → Nat} {B E D : Nat → Nat → Int32} {π : Nat → Nat} {τ : Nat} : pz_il (dA 0) (cw dA ad B E π τ D) 122 10 = some (D 22 10) := il_22 (i := 10) (by decide)
theorem is_22_10 {dA ad : Nat → Nat} {B E D : Nat → Nat → Int32} {π : Nat → Nat} {τ : Nat} {v : Int32} : pz_is (dA 0) (cw dA ad B E π τ D) 122 10 v = some (cw dA ad B E π τ (u2 D 22 10 v)) := is_22 (i := 10) (by decide)
theorem il_22_11 {dA ad : Nat → Nat} {B E D : Nat → Nat → Int32} {π : Nat → Nat} {τ : Nat} : pz_il (dA 0) (cw dA ad B E π τ D) 122 11 = some (D 22 11) := il_22 (i := 11) (by decide)
theorem is_22_11 {dA ad : Nat → Nat} {B E D : Nat → Nat → Int32} {π : Nat → Nat} {τ : Nat} {v : Int32} : pz_is (dA 0) (cw dA ad B E π τ D) 122 11 v = some (cw dA ad B E π τ (u2 D 22 11 v)) := is_22 (i := 11) (by decide)
theorem il_23_0 {dA ad : Nat → Nat} {B E D : Nat → Nat → Int32} {π : Nat → Nat} {τ : Nat} : pz_il (dA 0) (cw dA ad B E π τ D) 123 0 = some (D 23 0) := il_23 (i := 0) (by decide)
theorem is_23_0 {dA ad : Nat → Nat} {B E D : Nat → Nat → Int32} {π : Nat → Nat} {τ : Nat} {v : Int32} : pz_is (dA 0) (cw dA ad B E π τ D) 123 0 v = some (cw dA ad B E π τ (u2 D 23 0 v)) := is_23 (i := 0) (by decide)
theorem il_23_1 {dA ad : Nat → Nat} {B E D : Nat → Nat → Int32} {π : Nat → Nat} {τ : Nat} : pz_il (dA 0) (cw dA ad B E π τ D) 123 1 = some (D 23 1) := il_23 (i := 1) (by decide)
theorem is_23_1 {dA ad : Nat → Nat} {B E D : Nat → Nat → Int32} {π : Nat → Nat} {τ : Nat} {v : Int32} : pz_is (dA 0) (cw dA ad B E π τ D) 123 1 v = some (cw dA ad B E π τ (u2 D 23 1 v)) := is_23 (i := 1) (by decide)
theorem il_23_2 {dA ad : Nat → Nat} {B E D : Nat → Nat → Int32} {π : Nat → Nat} {τ : Nat} : pz_il (dA 0) (cw dA ad B E π τ D) 123 2 = some (D 23 2) := il_23 (i := 2) (by decide)
theorem is_23_2 {dA ad : Nat → Nat} {B E D : Nat → Nat → Int32} {π : Nat → Nat} {τ : Nat} {v : Int32} : pz_is (dA 0) (cw dA ad B E π τ D) 123 2 v = some (cw dA ad B E π τ (u2 D 23 2 v)) := is_23 (i := 2) (by decide)
theorem il_23_3 {dA ad : Nat → Nat} {B E D : Nat → Nat → Int32} {π : Nat → Nat} {τ : Nat} : pz_il (dA 0) (cw dA ad B E π τ D) 123 3 = some (D 23 3) := il_23 (i := 3) (by decide)
theorem is_23_3 {dA ad : Nat → Nat} {B E D : Nat → Nat → Int32} {π : Nat → Nat} {τ : Nat} {v : Int32} : pz_is (dA 0) (cw dA ad B E π τ D) 123 3 v = some (cw dA ad B E π τ (u2 D 23 3 v)) := is_23 (i := 3) (by decide)
theorem il_23_4 {dA ad : Nat → Nat} {B E D : Nat → Nat → Int32} {π : Nat → Nat} {τ : Nat} : pz_il (dA 0) (cw dA ad B E π τ D) 123 4 = some (D 23 4) := il_23 (i := 4) (by decide)
theorem is_23_4 {dA ad : Nat → Nat} {B E D : Nat → Nat → Int32} {π : Nat → Nat} {τ : Nat} {v : Int32} : pz_is (dA 0) (cw dA ad B E π τ D) 123 4 v = some (cw dA ad B E π τ (u2 D 23 4 v)) := is_23 (i := 4) (by decide)
theorem il_23_5 {dA ad : Nat → Nat} {B E D : Nat → Nat → Int32} {π : Nat → Nat} {τ : Nat} : pz_il (dA 0) (cw dA ad B E π τ D) 123 5 = some (D 23 5) := il_23 (i := 5) (by decide)
theorem is_23_5 {dA ad : Nat → Nat} {B E D : Nat → Nat → Int32} {π : Nat → Nat} {τ : Nat} {v : Int32} : pz_is (dA 0) (cw dA ad B E π τ D) 123 5 v = some (cw dA ad B E π τ (u2 D 23 5 v)) := is_23 (i := 5) (by decide)
theorem il_23_6 {dA ad : Nat → Nat} {B E D : Nat → Nat → Int32} {π : Nat → Nat} {τ : Nat} : pz_il (dA 0) (cw dA ad B E π τ D) 123 6 = some (D 23 6) := il_23 (i := 6) (by decide)
theorem is_23_6 {dA ad : Nat → Nat} {B E D : Nat → Nat → Int32} {π : Nat → Nat} {τ : Nat} {v : Int32} : pz_is (dA 0) (cw dA ad B E π τ D) 123 6 v = some (cw dA ad B E π τ (u2 D 23 6 v)) := is_23 (i := 6) (by decide)
theorem il_23_7 {dA ad : Nat → Nat} {B E D : Nat → Nat → Int32} {π : Nat → Nat} {τ : Nat} : pz_il (dA 0) (cw dA ad B E π τ D) 123 7 = some (D 23 7) := il_23 (i := 7) (by decide)
theorem is_23_7 {dA ad : Nat → Nat} {B E D : Nat → Nat → Int32} {π : Nat → Nat} {τ : Nat} {v : Int32} : pz_is (dA 0) (cw dA ad B E π τ D) 123 7 v = some (cw dA ad B E π τ (u2 D 23 7 v)) := is_23 (i := 7) (by decide)
theorem il_23_8 {dA ad : Nat → Nat} {B E D : Nat → Nat → Int32} {π : Nat → Nat} {τ : Nat} : pz_il (dA 0) (cw dA ad B E π τ D) 123 8 = some (D 23 8) := il_23 (i := 8) (by decide)
theorem is_23_8 {dA ad : Nat → Nat} {B E D : Nat → Nat → Int32} {π : Nat → Nat} {τ : Nat} {v : Int32} : pz_is (dA 0) (cw dA ad B E π τ D) 123 8 v = some (cw dA ad B E π τ (u2 D 23 8 v)) := is_23 (i := 8) (by decide)
theorem il_23_9 {dA ad : Nat → Nat} {B E D : Nat → Nat → Int32} {π : Nat → Nat} {τ : Nat} : pz_il (dA 0) (cw dA ad B E π τ D) 123 9 = some (D 23 9) := il_23 (i := 9) (by decide)
theorem is_23_9 {dA ad : Nat → Nat} {B E D : Nat → Nat → Int32} {π : Nat → Nat} {τ : Nat} {v : Int32} : pz_is (dA 0) (cw dA ad B E π τ D) 123 9 v = some (cw dA ad B E π τ (u2 D 23 9 v)) := is_23 (i := 9) (by decide)
theorem il_23_10 {dA ad : Nat → Nat} {B E D : Nat → Nat → Int32} {π : Nat → Nat} {τ : Nat} : pz_il (dA 0) (cw dA ad B E π τ D) 123 10 = some (D 23 10) := il_23 (i := 10) (by decide)
theorem is_23_10 {dA ad : Nat → Nat} {B E D : Nat → Nat → Int32} {π : Nat → Nat} {τ : Nat} {v : Int32} : pz_is (dA 0) (cw dA ad B E π τ D) 123 10 v = some (cw dA ad B E π τ (u2 D 23 10 v)) := is_23 (i := 10) (by decide)
theorem il_23_11 {dA ad : Nat → Nat} {B E D : Nat → Nat → Int32} {π : Nat → Nat} {τ : Nat} : pz_il (dA 0) (cw dA ad B E π τ D) 123 11 = some (D 23 11) := il_23 (i := 11) (by decide)
theorem is_23_11 {dA ad : Nat → Nat} {B E D : Nat → Nat → Int32} {π : Nat → Nat} {τ : Nat} {v : Int32} : pz_is (dA 0) (cw dA ad B E π τ D) 123 11 v = some (cw dA ad B E π τ (u2 D 23 11 v)) := is_23 (i := 11) (by decide)
theorem i32_eq {x y : Int32} : x = y ↔ x.toInt = y.toInt := Int32.toInt_inj.symm
theorem mx_le (x y : Int32) : (if x ≤ y then y else x) = mx x y := by
  unfold mx
  by_cases h : x < y
  · rw [if_pos h, if_pos (Int32.le_iff_toInt_le.mpr (by have := Int32.lt_iff_toInt_lt.mp h; omega))]
  · rw [if_neg h]
    split
    · rename_i h2
      exact i32_eq.mpr (by have := Int32.le_iff_toInt_le.mp h2; have := mt Int32.lt_iff_toInt_lt.mpr h; omega)
    · rfl
theorem mn_le (x y : Int32) : (if y ≤ x then y else x) = mn x y := by
  unfold mn
  by_cases h : y < x
  · rw [if_pos h, if_pos (Int32.le_iff_toInt_le.mpr (by have := Int32.lt_iff_toInt_lt.mp h; omega))]
  · rw [if_neg h]
    split
    · rename_i h2
      exact i32_eq.mpr (by have := Int32.le_iff_toInt_le.mp h2; have := mt Int32.lt_iff_toInt_lt.mpr h; omega)
    · rfl
theorem srv_iff (D : Nat → Nat → Int32) (s : Nat) : srv D s = true ↔ (¬ D 2 s < 1 ∧ ¬ 3 < D 2 s) := by
  unfold srv
  simp only [Bool.or_eq_true, decide_eq_true_eq, Int32.lt_iff_toInt_lt, i32_eq]
  have h1 : (1 : Int32).toInt = 1 := by decide
  have h2 : (2 : Int32).toInt = 2 := by decide
  have h3 : (3 : Int32).toInt = 3 := by decide
  rw [h1, h2, h3]
  omega
def bgn (D : Nat → Nat → Int32) (w f t x y : Int32) : Nat → Nat → Int32 := u2 (u2 (u2 (u2 (u2 (u2 (lp (fun D k => u2 D 23 k 0) 12 0 D) 23 0 w) 23 1 f) 23 2 t) 23 3 x) 23 4 y) 23 5 (D 0 0)
def pX (D : Nat → Nat → Int32) : Nat → Nat → Int32 := if D 20 0 = 24 then D else u2 (lp (fun D' k => u2 D' 21 (12 * (D 20 0).toNatClampNeg + k) (D' 23 k)) 12 0 D) 20 0 (D 20 0 + 1)
theorem lp_k {f : (Nat → Nat → Int32) → Nat → (Nat → Nat → Int32)} {k i : Nat} (h : ∀ D a, f D a k i = D k i) : ∀ (t a : Nat) (D : Nat → Nat → Int32), lp f t a D k i = D k i := by
  intro t
  induction t with
  | zero => intro a D; rfl
  | succ t ih =>
    intro a D
    show lp f t (a + 1) (f D a) k i = D k i
    rw [ih, h]
theorem bgn_k {D : Nat → Nat → Int32} {w f t x y : Int32} {k i : Nat} (h : k ≠ 23) : bgn D w f t x y k i = D k i := by
  unfold bgn
  simp only [u2_k _ _ _ _ h]
  exact lp_k (fun D a => u2_k _ _ _ _ h) _ _ _
theorem pX_k {D : Nat → Nat → Int32} {k i : Nat} (h : k ≠ 20 ∧ k ≠ 21) : pX D k i = D k i := by
  unfold pX
  split
  · rfl
  · rw [u2_k _ _ _ _ h.1]
    exact lp_k (fun D a => u2_k _ _ _ _ h.2) _ _ _
theorem lt12 {i : Nat} (h : i < 12) : ((12 : Int32) ≤ nI i) = False := nle_nI (a := 12) h (by decide)
theorem le12 : ((12 : Int32) ≤ nI 12) = True := le_nI (a := 12) (Nat.le_refl 12) (by decide)
section XA
variable {dA ad ix : Nat → Nat} {B E D : Nat → Nat → Int32} {π : Nat → Nat} {τ d : Nat} {Q : Option Value → pz_F → Prop}

set_option maxHeartbeats 400000 in
set_option maxRecDepth 20000 in
theorem m87 (hA : ∀ i, ix (ad i) = i) {x : Int32} : pz_C dA d 87 [.int x] (pz_wf ad ix (cw dA ad B E π τ D)) Q = (if x = 0 then Q (some (.int 1)) (pz_wf ad ix (cw dA ad B E π τ D)) else if x = 1 then Q (some (.int 1)) (pz_wf ad ix (cw dA ad B E π τ D)) else Q (some (.int 0)) (pz_wf ad ix (cw dA ad B E π τ D))) := by
  rw [e87]
  simp only [pz_o_s, wf_gf hA, wf_gu hA, wf_pf hA, wf_il hA, wf_is hA, wf_rl hA, wf_rs hA, Option.map_some, Option.toList_some, Option.toList_none, List.cons_append, List.nil_append, List.length_cons, List.length_nil, Nat.reduceAdd, Nat.reduceLeDiff, Nat.zero_le, u2_e, Nat.reduceEqDiff, false_and, and_false, true_and, and_true, if_false, if_true, i10, i01, q87_0, q87_1, q87_4, q87_5, q87_6, q87_9, q87_10, q87_13, q87_14z, q87_14o]
set_option maxHeartbeats 400000 in
set_option maxRecDepth 20000 in
theorem m88 (hA : ∀ i, ix (ad i) = i) {x : Int32} : pz_C dA d 88 [.int x] (pz_wf ad ix (cw dA ad B E π τ D)) Q = (if x < 0 then Q (some (.int 0)) (pz_wf ad ix (cw dA ad B E π τ D)) else if 4 < x then Q (some (.int 0)) (pz_wf ad ix (cw dA ad B E π τ D)) else Q (some (.int 1)) (pz_wf ad ix (cw dA ad B E π τ D))) := by
  rw [e88]
  simp only [pz_o_s, wf_gf hA, wf_gu hA, wf_pf hA, wf_il hA, wf_is hA, wf_rl hA, wf_rs hA, Option.map_some, Option.toList_some, Option.toList_none, List.cons_append, List.nil_append, List.length_cons, List.length_nil, Nat.reduceAdd, Nat.reduceLeDiff, Nat.zero_le, u2_e, Nat.reduceEqDiff, false_and, and_false, true_and, and_true, if_false, if_true, i10, i01, q88_0, q88_1, q88_4, q88_5, q88_6, q88_9, q88_10, q88_13, q88_14z, q88_14o]
set_option maxHeartbeats 400000 in
set_option maxRecDepth 20000 in
theorem m89 (hA : ∀ i, ix (ad i) = i) {s : Nat} (hs : s < 2) : pz_C dA d 89 [.ref (ad 100), .int (nI s)] (pz_wf ad ix (cw dA ad B E π τ D)) Q = (if srv D s = true then Q (some (.int 1)) (pz_wf ad ix (cw dA ad B E π τ D)) else Q (some (.int 0)) (pz_wf ad ix (cw dA ad B E π τ D))) := by
  rw [e89]
  simp only [pz_o_s, wf_gf hA, wf_gu hA, wf_pf hA, wf_il hA, wf_is hA, wf_rl hA, wf_rs hA, Option.map_some, Option.toList_some, Option.toList_none, List.cons_append, List.nil_append, List.length_cons, List.length_nil, Nat.reduceAdd, Nat.reduceLeDiff, Nat.zero_le, u2_e, Nat.reduceEqDiff, false_and, and_false, true_and, and_true, if_false, if_true, i10, i01, q89_0, q89_1, q89_4, q89_5, q89_6, q89_7, q89_10, q89_11, q89_14, q89_15, q89_16, q89_17, q89_20, q89_21, q89_24, q89_25z, q89_25o, gu_X, gf_X0, gf_X1, gf_X2, gf_X3, gf_X4, gf_X5, gf_X6, gf_X7, gf_X8, gf_X9, gf_X10, gf_X11, gf_X12, gf_X13, gf_X14, gf_X15, gf_X16, gf_X17, gf_X18, gf_X19, gf_X20, gf_X21, gf_X22, gf_X23, pf_X0, pf_X1, pf_X20, il_2 hs, il_3 hs, il_4 hs, il_5 hs, il_6 hs, is_2 hs, is_3 hs, is_4 hs, is_5 hs, is_6 hs]
  by_cases h1 : D 2 s < 1 <;> by_cases h2 : 3 < D 2 s <;> simp [srv_iff, h1, h2]
set_option maxHeartbeats 400000 in
set_option maxRecDepth 20000 in
theorem m90 (hA : ∀ i, ix (ad i) = i) : pz_C dA d 90 [.ref (ad 100)] (pz_wf ad ix (cw dA ad B E π τ D)) Q = (if ctc D = true then Q (some (.int 1)) (pz_wf ad ix (cw dA ad B E π τ D)) else Q (some (.int 0)) (pz_wf ad ix (cw dA ad B E π τ D))) := by
  rw [e90]
  simp only [pz_o_s, wf_gf hA, wf_gu hA, wf_pf hA, wf_il hA, wf_is hA, wf_rl hA, wf_rs hA, Option.map_some, Option.toList_some, Option.toList_none, List.cons_append, List.nil_append, List.length_cons, List.length_nil, Nat.reduceAdd, Nat.reduceLeDiff, Nat.zero_le, u2_e, Nat.reduceEqDiff, false_and, and_false, true_and, and_true, if_false, if_true, i10, i01, q90_0, q90_1, q90_4, q90_7, q90_8, q90_11, q90_12, q90_13, q90_16, q90_17, q90_20, q90_21, q90_22, q90_25, q90_26, q90_29, q90_30z, q90_30o, gu_X, gf_X0, gf_X1, gf_X2, gf_X3, gf_X4, gf_X5, gf_X6, gf_X7, gf_X8, gf_X9, gf_X10, gf_X11, gf_X12, gf_X13, gf_X14, gf_X15, gf_X16, gf_X17, gf_X18, gf_X19, gf_X20, gf_X21, gf_X22, gf_X23, pf_X0, pf_X1, pf_X20, il_2_0, il_2_1]
  by_cases h1 : D 1 0 = 0 <;> by_cases h2 : D 2 0 = 0 <;> by_cases h3 : D 2 1 = 0 <;> simp [ctc, h1, h2, h3]
set_option maxHeartbeats 400000 in
set_option maxRecDepth 20000 in
theorem m91 (hA : ∀ i, ix (ad i) = i) {r : Nat} (hr : r < 12) : pz_C dA d 91 [.ref (ad 100), .int (nI r)] (pz_wf ad ix (cw dA ad B E π τ D)) Q = (if D 7 r = 1 then (if D 9 r < D 0 0 then Q (some (.int 0)) (pz_wf ad ix (cw dA ad B E π τ D)) else Q (some (.int 1)) (pz_wf ad ix (cw dA ad B E π τ D))) else Q (some (.int 0)) (pz_wf ad ix (cw dA ad B E π τ D))) := by
  rw [e91]
  simp only [pz_o_s, wf_gf hA, wf_gu hA, wf_pf hA, wf_il hA, wf_is hA, wf_rl hA, wf_rs hA, Option.map_some, Option.toList_some, Option.toList_none, List.cons_append, List.nil_append, List.length_cons, List.length_nil, Nat.reduceAdd, Nat.reduceLeDiff, Nat.zero_le, u2_e, Nat.reduceEqDiff, false_and, and_false, true_and, and_true, if_false, if_true, i10, i01, q91_0, q91_1, q91_4, q91_5, q91_6, q91_7, q91_10, q91_11, q91_14, q91_15, q91_16, q91_17, q91_20, q91_23, q91_24, q91_27, q91_28z, q91_28o, gu_X, gf_X0, gf_X1, gf_X2, gf_X3, gf_X4, gf_X5, gf_X6, gf_X7, gf_X8, gf_X9, gf_X10, gf_X11, gf_X12, gf_X13, gf_X14, gf_X15, gf_X16, gf_X17, gf_X18, gf_X19, gf_X20, gf_X21, gf_X22, gf_X23, pf_X0, pf_X1, pf_X20, il_7 hr, il_8 hr, il_9 hr, il_10 hr, il_11 hr, il_12 hr, il_13 hr, il_14 hr, is_7 hr, is_8 hr, is_9 hr, is_10 hr, is_11 hr, is_12 hr, is_13 hr, is_14 hr]
set_option maxHeartbeats 400000 in
set_option maxRecDepth 20000 in
theorem m92 (hA : ∀ i, ix (ad i) = i) {x y : Int32} : pz_C dA d 92 [.int x, .int y] (pz_wf ad ix (cw dA ad B E π τ D)) Q = (Q (some (.int (mx x y))) (pz_wf ad ix (cw dA ad B E π τ D))) := by
  rw [e92]
  simp only [pz_o_s, wf_gf hA, wf_gu hA, wf_pf hA, wf_il hA, wf_is hA, wf_rl hA, wf_rs hA, Option.map_some, Option.toList_some, Option.toList_none, List.cons_append, List.nil_append, List.length_cons, List.length_nil, Nat.reduceAdd, Nat.reduceLeDiff, Nat.zero_le, u2_e, Nat.reduceEqDiff, false_and, and_false, true_and, and_true, if_false, if_true, i10, i01, q92_0, q92_1, q92_2, q92_5, q92_6, q92_9, q92_10, ← mx_le]
  by_cases h : x ≤ y <;> simp only [h, if_true, if_false]
set_option maxHeartbeats 400000 in
set_option maxRecDepth 20000 in
theorem m93 (hA : ∀ i, ix (ad i) = i) {x y : Int32} : pz_C dA d 93 [.int x, .int y] (pz_wf ad ix (cw dA ad B E π τ D)) Q = (Q (some (.int (mn x y))) (pz_wf ad ix (cw dA ad B E π τ D))) := by
  rw [e93]
  simp only [pz_o_s, wf_gf hA, wf_gu hA, wf_pf hA, wf_il hA, wf_is hA, wf_rl hA, wf_rs hA, Option.map_some, Option.toList_some, Option.toList_none, List.cons_append, List.nil_append, List.length_cons, List.length_nil, Nat.reduceAdd, Nat.reduceLeDiff, Nat.zero_le, u2_e, Nat.reduceEqDiff, false_and, and_false, true_and, and_true, if_false, if_true, i10, i01, q93_0, q93_1, q93_2, q93_5, q93_6, q93_9, q93_10, ← mn_le]
  by_cases h : y ≤ x <;> simp only [h, if_true, if_false]
set_option maxHeartbeats 400000 in
set_option maxRecDepth 20000 in
theorem m97 (hA : ∀ i, ix (ad i) = i) {r : Nat} (hr : r < 12) : pz_C dA d 97 [.ref (ad 100), .int (nI r)] (pz_wf ad ix (cw dA ad B E π τ D)) Q = (Q none (pz_wf ad ix (cw dA ad B E π τ (b_chg D r)))) := by
  rw [e97]
  simp only [pz_o_s, wf_gf hA, wf_gu hA, wf_pf hA, wf_il hA, wf_is hA, wf_rl hA, wf_rs hA, Option.map_some, Option.toList_some, Option.toList_none, List.cons_append, List.nil_append, List.length_cons, List.length_nil, Nat.reduceAdd, Nat.reduceLeDiff, Nat.zero_le, u2_e, Nat.reduceEqDiff, false_and, and_false, true_and, and_true, if_false, if_true, i10, i01, q97_0, q97_1, q97_4, q97_5, q97_6, q97_7, q97_8, q97_9, q97_10, q97_11, q97_14, q97_15, q97_16z, q97_16o, q97_17, gu_X, gf_X0, gf_X1, gf_X2, gf_X3, gf_X4, gf_X5, gf_X6, gf_X7, gf_X8, gf_X9, gf_X10, gf_X11, gf_X12, gf_X13, gf_X14, gf_X15, gf_X16, gf_X17, gf_X18, gf_X19, gf_X20, gf_X21, gf_X22, gf_X23, pf_X0, pf_X1, pf_X20, il_7 hr, il_8 hr, il_9 hr, il_10 hr, il_11 hr, il_12 hr, il_13 hr, il_14 hr, is_7 hr, is_8 hr, is_9 hr, is_10 hr, is_11 hr, is_12 hr, is_13 hr, is_14 hr]
  rfl
set_option maxHeartbeats 400000 in
set_option maxRecDepth 20000 in
theorem m98 (hA : ∀ i, ix (ad i) = i) {r : Nat} (hr : r < 12) : pz_C dA d 98 [.ref (ad 100), .int (nI r)] (pz_wf ad ix (cw dA ad B E π τ D)) Q = (Q none (pz_wf ad ix (cw dA ad B E π τ (b_clr D r)))) := by
  rw [e98]
  simp only [pz_o_s, wf_gf hA, wf_gu hA, wf_pf hA, wf_il hA, wf_is hA, wf_rl hA, wf_rs hA, Option.map_some, Option.toList_some, Option.toList_none, List.cons_append, List.nil_append, List.length_cons, List.length_nil, Nat.reduceAdd, Nat.reduceLeDiff, Nat.zero_le, u2_e, Nat.reduceEqDiff, false_and, and_false, true_and, and_true, if_false, if_true, i10, i01, q98_0, q98_1, q98_4, q98_5, q98_6, q98_7, q98_8, q98_11, q98_12, q98_13, q98_14, q98_15, q98_18, q98_19, q98_20, q98_21, q98_22, q98_25, q98_26, q98_27, q98_28, q98_29, q98_32, q98_33, q98_34, q98_35, gu_X, gf_X0, gf_X1, gf_X2, gf_X3, gf_X4, gf_X5, gf_X6, gf_X7, gf_X8, gf_X9, gf_X10, gf_X11, gf_X12, gf_X13, gf_X14, gf_X15, gf_X16, gf_X17, gf_X18, gf_X19, gf_X20, gf_X21, gf_X22, gf_X23, pf_X0, pf_X1, pf_X20, il_7 hr, il_8 hr, il_9 hr, il_10 hr, il_11 hr, il_12 hr, il_13 hr, il_14 hr, is_7 hr, is_8 hr, is_9 hr, is_10 hr, is_11 hr, is_12 hr, is_13 hr, is_14 hr]
  rfl
set_option maxHeartbeats 400000 in
set_option maxRecDepth 20000 in
theorem m104 (hA : ∀ i, ix (ad i) = i) {r : Nat} (hr : r < 12) : pz_C dA (d + 1) 104 [.ref (ad 100), .int (nI r)] (pz_wf ad ix (cw dA ad B E π τ D)) Q = (Q none (pz_wf ad ix (cw dA ad B E π τ (b_end D r)))) := by
  rw [e104]
  simp only [pz_o_s, wf_gf hA, wf_gu hA, wf_pf hA, wf_il hA, wf_is hA, wf_rl hA, wf_rs hA, Option.map_some, Option.toList_some, Option.toList_none, List.cons_append, List.nil_append, List.length_cons, List.length_nil, Nat.reduceAdd, Nat.reduceLeDiff, Nat.zero_le, u2_e, Nat.reduceEqDiff, false_and, and_false, true_and, and_true, if_false, if_true, i10, i01, q104_0, q104_1, q104_4, q104_5, q104_6, q104_7, q104_8, q104_9, q104_12, gu_X, gf_X0, gf_X1, gf_X2, gf_X3, gf_X4, gf_X5, gf_X6, gf_X7, gf_X8, gf_X9, gf_X10, gf_X11, gf_X12, gf_X13, gf_X14, gf_X15, gf_X16, gf_X17, gf_X18, gf_X19, gf_X20, gf_X21, gf_X22, gf_X23, pf_X0, pf_X1, pf_X20, il_7 hr, il_8 hr, il_9 hr, il_10 hr, il_11 hr, il_12 hr, il_13 hr, il_14 hr, is_7 hr, is_8 hr, is_9 hr, is_10 hr, is_11 hr, is_12 hr, is_13 hr, is_14 hr, m97 hA hr]
  rfl
set_option maxHeartbeats 400000 in
set_option maxRecDepth 20000 in
theorem i99 (hA : ∀ i, ix (ad i) = i) {s : Nat} (hs : s < 2) {i : Nat} (hi : i < 6) {w : Int32} : pz_R dA d 99 2 [.ref (ad 100), .int (nI s), .int w, .int (nI i)] [] (pz_wf ad ix (cw dA ad B E π τ D)) Q = (if (c_lent D s w) i = true then Q (some (.int (nI i))) (pz_wf ad ix (cw dA ad B E π τ D)) else pz_R dA d 99 2 [.ref (ad 100), .int (nI s), .int w, .int (nI (i + 1))] [] (pz_wf ad ix (cw dA ad B E π τ D)) Q) := by
  rw [q99_2]
  simp only [pz_o_s, wf_gf hA, wf_gu hA, wf_pf hA, wf_il hA, wf_is hA, wf_rl hA, wf_rs hA, Option.map_some, Option.toList_some, Option.toList_none, List.cons_append, List.nil_append, List.length_cons, List.length_nil, Nat.reduceAdd, Nat.reduceLeDiff, Nat.zero_le, u2_e, Nat.reduceEqDiff, false_and, and_false, true_and, and_true, if_false, if_true, i10, i01, q99_0, q99_1, q99_3, q99_5, q99_8, q99_9, q99_12, q99_14, q99_15, q99_16, q99_17, q99_18, q99_19, q99_20, q99_23, q99_24, q99_27, q99_29, q99_30, q99_31, q99_32, q99_33, q99_34, q99_35, q99_38, q99_39, q99_40, q99_43, q99_46, q99_47, gu_X, gf_X0, gf_X1, gf_X2, gf_X3, gf_X4, gf_X5, gf_X6, gf_X7, gf_X8, gf_X9, gf_X10, gf_X11, gf_X12, gf_X13, gf_X14, gf_X15, gf_X16, gf_X17, gf_X18, gf_X19, gf_X20, gf_X21, gf_X22, gf_X23, pf_X0, pf_X1, pf_X20, il_7 (show 6 * s + i < 12 by omega), il_8 (show 6 * s + i < 12 by omega), il_9 (show 6 * s + i < 12 by omega), il_11 (show 6 * s + i < 12 by omega), lt6 hi, sx_mul, nI_add, nI_1]
  by_cases h1 : D 7 (6 * s + i) = 1 <;> by_cases h2 : D 8 (6 * s + i) = w <;> simp [c_lent, h1, h2]
set_option maxHeartbeats 400000 in
set_option maxRecDepth 20000 in
theorem x99 (hA : ∀ i, ix (ad i) = i) {s : Nat} (hs : s < 2) {w : Int32} : pz_R dA d 99 2 [.ref (ad 100), .int (nI s), .int w, .int (nI 6)] [] (pz_wf ad ix (cw dA ad B E π τ D)) Q = (Q (some (.int (-1))) (pz_wf ad ix (cw dA ad B E π τ D))) := by
  rw [q99_2]
  simp only [pz_o_s, wf_gf hA, wf_gu hA, wf_pf hA, wf_il hA, wf_is hA, wf_rl hA, wf_rs hA, Option.map_some, Option.toList_some, Option.toList_none, List.cons_append, List.nil_append, List.length_cons, List.length_nil, Nat.reduceAdd, Nat.reduceLeDiff, Nat.zero_le, u2_e, Nat.reduceEqDiff, false_and, and_false, true_and, and_true, if_false, if_true, i10, i01, q99_0, q99_1, q99_3, q99_5, q99_8, q99_9, q99_12, q99_14, q99_15, q99_16, q99_17, q99_18, q99_19, q99_20, q99_23, q99_24, q99_27, q99_29, q99_30, q99_31, q99_32, q99_33, q99_34, q99_35, q99_38, q99_39, q99_40, q99_43, q99_46, q99_47, le6]
theorem l99 (hA : ∀ i, ix (ad i) = i) {s : Nat} (hs : s < 2) {w : Int32} : ∀ (t i : Nat), i + t = 6 → pz_R dA d 99 2 [.ref (ad 100), .int (nI s), .int w, .int (nI i)] [] (pz_wf ad ix (cw dA ad B E π τ D)) Q = Q (some (.int (fnd (c_lent D s w) t i))) (pz_wf ad ix (cw dA ad B E π τ D)) := by
  intro t
  induction t with
  | zero =>
    intro i h
    have h : i = 6 := h
    subst h
    exact x99 hA hs
  | succ t ih =>
    intro i h
    rw [i99 hA hs (by omega), ih (i + 1) (by omega)]
    by_cases h9 : (c_lent D s w) i = true
    · simp [fnd, h9]
    · simp [fnd, h9]
set_option maxHeartbeats 400000 in
set_option maxRecDepth 20000 in
theorem m99 (hA : ∀ i, ix (ad i) = i) {s : Nat} (hs : s < 2) {w : Int32} : pz_C dA d 99 [.ref (ad 100), .int (nI s), .int w] (pz_wf ad ix (cw dA ad B E π τ D)) Q = Q (some (.int (fnd (c_lent D s w) 6 0))) (pz_wf ad ix (cw dA ad B E π τ D)) := by
  rw [e99]
  simp only [q99_0, q99_1]
  have h := l99 (dA := dA) (B := B) (E := E) (π := π) (D := D) (τ := τ) (Q := Q) (d := d) (w := w) hA hs 6 0 (by omega)
  rw [nI_0] at h
  exact h
def c_fre2 (B : Nat → Nat → Int32) (s : Nat) (fl : Int32) : Nat → Bool := fun a => decide (B 7 (6 * s + a) = 0) && (!decide (fl = 0) || decide (nI a - nI a / 2 * 2 = nI s))
set_option maxHeartbeats 400000 in
set_option maxRecDepth 20000 in
theorem i100 (hA : ∀ i, ix (ad i) = i) {s : Nat} (hs : s < 2) {i : Nat} (hi : i < 6) {fl : Int32} : pz_R dA d 100 2 [.ref (ad 100), .int (nI s), .int fl, .int (nI i)] [] (pz_wf ad ix (cw dA ad B E π τ D)) Q = (if (c_fre2 D s fl) i = true then Q (some (.int (nI i))) (pz_wf ad ix (cw dA ad B E π τ D)) else pz_R dA d 100 2 [.ref (ad 100), .int (nI s), .int fl, .int (nI (i + 1))] [] (pz_wf ad ix (cw dA ad B E π τ D)) Q) := by
  rw [q100_2]
  simp only [pz_o_s, wf_gf hA, wf_gu hA, wf_pf hA, wf_il hA, wf_is hA, wf_rl hA, wf_rs hA, Option.map_some, Option.toList_some, Option.toList_none, List.cons_append, List.nil_append, List.length_cons, List.length_nil, Nat.reduceAdd, Nat.reduceLeDiff, Nat.zero_le, u2_e, Nat.reduceEqDiff, false_and, and_false, true_and, and_true, if_false, if_true, i10, i01, q100_0, q100_1, q100_3, q100_5, q100_8, q100_9, q100_12, q100_14, q100_15, q100_16, q100_17, q100_18, q100_19, q100_22, q100_23, q100_26, q100_27, q100_28, q100_29, q100_30, q100_33, q100_34, q100_35, q100_38, q100_41, q100_42, gu_X, gf_X0, gf_X1, gf_X2, gf_X3, gf_X4, gf_X5, gf_X6, gf_X7, gf_X8, gf_X9, gf_X10, gf_X11, gf_X12, gf_X13, gf_X14, gf_X15, gf_X16, gf_X17, gf_X18, gf_X19, gf_X20, gf_X21, gf_X22, gf_X23, pf_X0, pf_X1, pf_X20, il_7 (show 6 * s + i < 12 by omega), il_8 (show 6 * s + i < 12 by omega), il_9 (show 6 * s + i < 12 by omega), il_11 (show 6 * s + i < 12 by omega), lt6 hi, sx_mul, nI_add, nI_1]
  by_cases h1 : D 7 (6 * s + i) = 0 <;> by_cases h2 : fl = 0 <;> by_cases h3 : nI i - nI i / 2 * 2 = nI s <;> simp [c_fre2, h1, h2, h3]
set_option maxHeartbeats 400000 in
set_option maxRecDepth 20000 in
theorem x100 (hA : ∀ i, ix (ad i) = i) {s : Nat} (hs : s < 2) {fl : Int32} : pz_R dA d 100 2 [.ref (ad 100), .int (nI s), .int fl, .int (nI 6)] [] (pz_wf ad ix (cw dA ad B E π τ D)) Q = (Q (some (.int (-1))) (pz_wf ad ix (cw dA ad B E π τ D))) := by
  rw [q100_2]
  simp only [pz_o_s, wf_gf hA, wf_gu hA, wf_pf hA, wf_il hA, wf_is hA, wf_rl hA, wf_rs hA, Option.map_some, Option.toList_some, Option.toList_none, List.cons_append, List.nil_append, List.length_cons, List.length_nil, Nat.reduceAdd, Nat.reduceLeDiff, Nat.zero_le, u2_e, Nat.reduceEqDiff, false_and, and_false, true_and, and_true, if_false, if_true, i10, i01, q100_0, q100_1, q100_3, q100_5, q100_8, q100_9, q100_12, q100_14, q100_15, q100_16, q100_17, q100_18, q100_19, q100_22, q100_23, q100_26, q100_27, q100_28, q100_29, q100_30, q100_33, q100_34, q100_35, q100_38, q100_41, q100_42, le6]
theorem l100 (hA : ∀ i, ix (ad i) = i) {s : Nat} (hs : s < 2) {fl : Int32} : ∀ (t i : Nat), i + t = 6 → pz_R dA d 100 2 [.ref (ad 100), .int (nI s), .int fl, .int (nI i)] [] (pz_wf ad ix (cw dA ad B E π τ D)) Q = Q (some (.int (fnd (c_fre2 D s fl) t i))) (pz_wf ad ix (cw dA ad B E π τ D)) := by
  intro t
  induction t with
  | zero =>
    intro i h
    have h : i = 6 := h
    subst h
    exact x100 hA hs
  | succ t ih =>
    intro i h
    rw [i100 hA hs (by omega), ih (i + 1) (by omega)]
    by_cases h9 : (c_fre2 D s fl) i = true
    · simp [fnd, h9]
    · simp [fnd, h9]
set_option maxHeartbeats 400000 in
set_option maxRecDepth 20000 in
theorem m100 (hA : ∀ i, ix (ad i) = i) {s : Nat} (hs : s < 2) {fl : Int32} : pz_C dA d 100 [.ref (ad 100), .int (nI s), .int fl] (pz_wf ad ix (cw dA ad B E π τ D)) Q = Q (some (.int (fnd (c_fre2 D s fl) 6 0))) (pz_wf ad ix (cw dA ad B E π τ D)) := by
  rw [e100]
  simp only [q100_0, q100_1]
  have h := l100 (dA := dA) (B := B) (E := E) (π := π) (D := D) (τ := τ) (Q := Q) (d := d) (fl := fl) hA hs 6 0 (by omega)
  rw [nI_0] at h
  exact h
set_option maxHeartbeats 400000 in
set_option maxRecDepth 20000 in
theorem i101 (hA : ∀ i, ix (ad i) = i) {s : Nat} (hs : s < 2) {i : Nat} (hi : i < 6) : pz_R dA d 101 2 [.ref (ad 100), .int (nI s), .int (nI i)] [] (pz_wf ad ix (cw dA ad B E π τ D)) Q = (if (c_past D s (D 0 0)) i = true then Q (some (.int (nI i))) (pz_wf ad ix (cw dA ad B E π τ D)) else pz_R dA d 101 2 [.ref (ad 100), .int (nI s), .int (nI (i + 1))] [] (pz_wf ad ix (cw dA ad B E π τ D)) Q) := by
  rw [q101_2]
  simp only [pz_o_s, wf_gf hA, wf_gu hA, wf_pf hA, wf_il hA, wf_is hA, wf_rl hA, wf_rs hA, Option.map_some, Option.toList_some, Option.toList_none, List.cons_append, List.nil_append, List.length_cons, List.length_nil, Nat.reduceAdd, Nat.reduceLeDiff, Nat.zero_le, u2_e, Nat.reduceEqDiff, false_and, and_false, true_and, and_true, if_false, if_true, i10, i01, q101_0, q101_1, q101_3, q101_5, q101_8, q101_9, q101_12, q101_14, q101_15, q101_16, q101_17, q101_18, q101_19, q101_21, q101_22, q101_23, q101_26, q101_29, q101_30, q101_33, q101_35, q101_36, q101_37, q101_38, q101_39, q101_40, q101_42, q101_43, q101_44, q101_47, q101_50, q101_51, q101_52, q101_55, q101_58, q101_59, gu_X, gf_X0, gf_X1, gf_X2, gf_X3, gf_X4, gf_X5, gf_X6, gf_X7, gf_X8, gf_X9, gf_X10, gf_X11, gf_X12, gf_X13, gf_X14, gf_X15, gf_X16, gf_X17, gf_X18, gf_X19, gf_X20, gf_X21, gf_X22, gf_X23, pf_X0, pf_X1, pf_X20, il_7 (show 6 * s + i < 12 by omega), il_8 (show 6 * s + i < 12 by omega), il_9 (show 6 * s + i < 12 by omega), il_11 (show 6 * s + i < 12 by omega), lt6 hi, sx_mul, nI_add, nI_1]
  by_cases h1 : D 0 0 ≤ D 9 (6 * s + i) + 6 <;> by_cases h2 : D 0 0 ≤ D 11 (6 * s + i) + 6 <;> simp [c_past, h1, h2]
set_option maxHeartbeats 400000 in
set_option maxRecDepth 20000 in
theorem x101 (hA : ∀ i, ix (ad i) = i) {s : Nat} (hs : s < 2) : pz_R dA d 101 2 [.ref (ad 100), .int (nI s), .int (nI 6)] [] (pz_wf ad ix (cw dA ad B E π τ D)) Q = (Q (some (.int (-1))) (pz_wf ad ix (cw dA ad B E π τ D))) := by
  rw [q101_2]
  simp only [pz_o_s, wf_gf hA, wf_gu hA, wf_pf hA, wf_il hA, wf_is hA, wf_rl hA, wf_rs hA, Option.map_some, Option.toList_some, Option.toList_none, List.cons_append, List.nil_append, List.length_cons, List.length_nil, Nat.reduceAdd, Nat.reduceLeDiff, Nat.zero_le, u2_e, Nat.reduceEqDiff, false_and, and_false, true_and, and_true, if_false, if_true, i10, i01, q101_0, q101_1, q101_3, q101_5, q101_8, q101_9, q101_12, q101_14, q101_15, q101_16, q101_17, q101_18, q101_19, q101_21, q101_22, q101_23, q101_26, q101_29, q101_30, q101_33, q101_35, q101_36, q101_37, q101_38, q101_39, q101_40, q101_42, q101_43, q101_44, q101_47, q101_50, q101_51, q101_52, q101_55, q101_58, q101_59, le6]
theorem l101 (hA : ∀ i, ix (ad i) = i) {s : Nat} (hs : s < 2) : ∀ (t i : Nat), i + t = 6 → pz_R dA d 101 2 [.ref (ad 100), .int (nI s), .int (nI i)] [] (pz_wf ad ix (cw dA ad B E π τ D)) Q = Q (some (.int (fnd (c_past D s (D 0 0)) t i))) (pz_wf ad ix (cw dA ad B E π τ D)) := by
  intro t
  induction t with
  | zero =>
    intro i h
    have h : i = 6 := h
    subst h
    exact x101 hA hs
  | succ t ih =>
    intro i h
    rw [i101 hA hs (by omega), ih (i + 1) (by omega)]
    by_cases h9 : (c_past D s (D 0 0)) i = true
    · simp [fnd, h9]
    · simp [fnd, h9]
set_option maxHeartbeats 400000 in
set_option maxRecDepth 20000 in
theorem m101 (hA : ∀ i, ix (ad i) = i) {s : Nat} (hs : s < 2) : pz_C dA d 101 [.ref (ad 100), .int (nI s)] (pz_wf ad ix (cw dA ad B E π τ D)) Q = Q (some (.int (fnd (c_past D s (D 0 0)) 6 0))) (pz_wf ad ix (cw dA ad B E π τ D)) := by
  rw [e101]
  simp only [q101_0, q101_1]
  have h := l101 (dA := dA) (B := B) (E := E) (π := π) (D := D) (τ := τ) (Q := Q) (d := d) hA hs 6 0 (by omega)
  rw [nI_0] at h
  exact h
theorem c_fre0 (D : Nat → Nat → Int32) (s : Nat) : c_fre2 D s 0 = c_free D s 1 := by
  funext a
  simp [c_fre2, c_free]
theorem c_fre1 (D : Nat → Nat → Int32) (s : Nat) : c_fre2 D s 1 = c_free D s 0 := by
  funext a
  simp [c_fre2, c_free]
theorem neg1 : (0 : Int32) ≤ -1 ↔ False := by decide
theorem fge (c : Nat → Bool) : ((0 : Int32) ≤ fnd c 6 0) = (¬ fnd c 6 0 = -1) := by
  rcases fnd6 c with h | ⟨j, hj, h⟩
  · rw [h]
    simp
  · rw [h, nm1 (by omega)]
    simp only [not_false_eq_true, eq_iff_iff, iff_true]
    exact nI_pos' (by omega)
set_option maxHeartbeats 400000 in
set_option maxRecDepth 20000 in
theorem m102 (hA : ∀ i, ix (ad i) = i) {s : Nat} (hs : s < 2) {w : Int32} : pz_C dA (d + 1) 102 [.ref (ad 100), .int (nI s), .int w] (pz_wf ad ix (cw dA ad B E π τ D)) Q = (Q (some (.int (chs D s w (D 0 0)))) (pz_wf ad ix (cw dA ad B E π τ D))) := by
  rw [e102]
  simp only [pz_o_s, wf_gf hA, wf_gu hA, wf_pf hA, wf_il hA, wf_is hA, wf_rl hA, wf_rs hA, Option.map_some, Option.toList_some, Option.toList_none, List.cons_append, List.nil_append, List.length_cons, List.length_nil, Nat.reduceAdd, Nat.reduceLeDiff, Nat.zero_le, u2_e, Nat.reduceEqDiff, false_and, and_false, true_and, and_true, if_false, if_true, i10, i01, q102_0, q102_1, q102_2, q102_3, q102_6, q102_7, q102_8, q102_11, q102_12, q102_13, q102_14, q102_17, q102_18, q102_19, q102_22, q102_23, q102_24, q102_25, q102_28, q102_29, q102_32, q102_33, q102_36, q102_37, q102_38, q102_40, q102_41, q102_44, q102_45, q102_48, q102_49, q102_51, q102_52, q102_55, q102_57, q102_60, q102_61, q102_62, q102_63, q102_66, q102_67, q102_68, q102_71, q102_73, q102_76, q102_77, q102_78, q102_81, q102_82, q102_83, gu_X, gf_X0, gf_X1, gf_X2, gf_X3, gf_X4, gf_X5, gf_X6, gf_X7, gf_X8, gf_X9, gf_X10, gf_X11, gf_X12, gf_X13, gf_X14, gf_X15, gf_X16, gf_X17, gf_X18, gf_X19, gf_X20, gf_X21, gf_X22, gf_X23, pf_X0, pf_X1, pf_X20, il_2 hs, il_3 hs, il_4 hs, il_5 hs, il_6 hs, is_2 hs, is_3 hs, is_4 hs, is_5 hs, is_6 hs, m99 hA hs, m100 hA hs, m101 hA hs, c_fre0, c_fre1, fge]
  by_cases h1 : fnd (c_lent D s w) 6 0 = -1 <;> by_cases h2 : fnd (c_free D s 1) 6 0 = -1 <;> by_cases h3 : D 2 s = 3 <;> by_cases h4 : D 0 0 ≤ D 3 s + 6 <;> by_cases h5 : fnd (c_free D s 0) 6 0 = -1 <;> simp [h1, h2, h3, h4, h5, chs]
end XA
