/-! the methods of a server -/
theorem lt6 {i : Nat} (h : i < 6) : ((6 : Int32) ≤ nI i) = False := nle_nI (a := 6) h (by decide)
theorem le6 : ((6 : Int32) ≤ nI 6) = True := le_nI (a := 6) (Nat.le_refl 6) (by decide)
/-- the least place from i on, among t, of which c holds; else -1 -/
def fnd (c : Nat → Bool) : Nat → Nat → Int32
  | 0, _ => -1
  | t + 1, i => if c i = true then nI i else fnd c t (i + 1)
/-- f at i, i + 1 .. , t times -/
def lp {α : Type} (f : α → Nat → α) : Nat → Nat → α → α
  | 0, _, x => x
  | t + 1, i, x => lp f t (i + 1) (f x i)
def c_lent (B : Nat → Nat → Int32) (s : Nat) (w : Int32) : Nat → Bool := fun a => decide (B 7 (6 * s + a) = 1) && decide (B 8 (6 * s + a) = w)
def c_free (B : Nat → Nat → Int32) (s : Nat) (fl : Int32) : Nat → Bool := fun a => decide (B 7 (6 * s + a) = 0) && (decide (fl = 0) || decide (nI a - nI a / 2 * 2 = nI s))
def c_past (B : Nat → Nat → Int32) (s : Nat) (now : Int32) : Nat → Bool := fun a => !decide (now ≤ B 9 (6 * s + a) + 6) && !decide (now ≤ B 11 (6 * s + a) + 6)
def b_exp (s : Nat) (now : Int32) (B : Nat → Nat → Int32) (a : Nat) : Nat → Nat → Int32 := if B 7 (6 * s + a) = 1 then (if now ≤ B 9 (6 * s + a) then B else b_end B (6 * s + a)) else B
def b_drt (s : Nat) (x : Int32) (B : Nat → Nat → Int32) (a : Nat) : Nat → Nat → Int32 := if x >>> (nI a &&& 31) &&& 1 = 1 then u2 B 14 (6 * s + a) 1 else B
def b_fol (B : Nat → Nat → Int32) (s : Nat) (ct x : Int32) : Nat → Nat → Int32 := if B 2 s = 1 ∧ ct = 0 then u2 B 2 s 2 else if B 2 s = 2 ∧ ¬ ct = 0 then u2 B 2 s 1 else if B 2 s = 4 ∧ ¬ ct = 0 ∧ B 6 s = 63 ∧ ¬ x ≤ B 3 s + 6 then u2 B 2 s 1 else B
def chs (B : Nat → Nat → Int32) (s : Nat) (w now : Int32) : Int32 := if ¬ fnd (c_lent B s w) 6 0 = -1 then fnd (c_lent B s w) 6 0 else if ¬ fnd (c_free B s 1) 6 0 = -1 then fnd (c_free B s 1) 6 0 else if B 2 s = 3 ∧ ¬ now ≤ B 3 s + 6 then (if fnd (c_free B s 0) 6 0 = -1 then fnd (c_past B s now) 6 0 else fnd (c_free B s 0) 6 0) else -1
/-- an update that comes to a server -/
def tuA (B : Nat → Nat → Int32) (s a : Nat) (now k cl un g po se : Int32) : Option (Nat → Nat → Int32) := if B 2 s = 4 then (if se = B 4 s then (if B 6 s >>> (nI a &&& 31) &&& 1 = 1 then tkA B (6 * s + a) now k cl un g po else (rcA B (6 * s + a) now k cl un g po).map (fun B => u2 B 6 s (B 6 s ||| 1 <<< (nI a &&& 31)))) else none) else tkA B (6 * s + a) now k cl un g po
theorem oq_m (z : Option (Nat → Nat → Int32)) (f : (Nat → Nat → Int32) → (Nat → Nat → Int32)) (K : (Nat → Nat → Int32) → Prop) (K0 : Prop) : oq (z.map f) K K0 = oq z (fun B => K (f B)) K0 := by cases z <;> rfl
section SM
variable {dA ad ix : Nat → Nat} {B E D : Nat → Nat → Int32} {π : Nat → Nat} {τ d : Nat} {Q : Option Value → pz_F → Prop}

set_option maxHeartbeats 4000000 in
set_option maxRecDepth 20000 in
theorem m36 (hA : ∀ i, ix (ad i) = i) {s : Nat} (hs : s < 2) : pz_C dA d 36 [.ref (ad (10 + s))] (pz_wf ad ix (cw dA ad B E π τ D)) Q = (if B 2 s = 1 then Q (some (.int 1)) (pz_wf ad ix (cw dA ad B E π τ D)) else if B 2 s = 2 then Q (some (.int 1)) (pz_wf ad ix (cw dA ad B E π τ D)) else if B 2 s = 3 then Q (some (.int 1)) (pz_wf ad ix (cw dA ad B E π τ D)) else Q (some (.int 0)) (pz_wf ad ix (cw dA ad B E π τ D))) := by
  rw [e36]
  simp only [pz_o_s, wf_gf hA, wf_gu hA, wf_pf hA, wf_il hA, wf_is hA, wf_rl hA, wf_rs hA, Option.map_some, Option.toList_some, Option.toList_none, List.cons_append, List.nil_append, List.length_cons, List.length_nil, Nat.reduceAdd, Nat.reduceLeDiff, Nat.zero_le, u2_e, Nat.reduceEqDiff, false_and, and_false, true_and, and_true, if_false, if_true, i10, i01, q36_0, q36_1, q36_4, q36_5, q36_8, q36_9, q36_12, q36_13, q36_16, q36_17, q36_20, q36_21, q36_24, q36_25, q36_28, q36_29z, q36_29o, gu_S hs, gf_S0 hs, gf_S1 hs, gf_S2 hs, gf_S3 hs, gf_S4 hs, gf_S5 hs, gf_S6 hs, pf_S2 hs, pf_S3 hs, pf_S4 hs, pf_S5 hs, pf_S6 hs]
set_option maxHeartbeats 4000000 in
set_option maxRecDepth 20000 in
theorem m37 (hA : ∀ i, ix (ad i) = i) {s : Nat} (hs : s < 2) {x : Int32} : pz_C dA d 37 [.ref (ad (10 + s)), .int x] (pz_wf ad ix (cw dA ad B E π τ D)) Q = (if B 6 s >>> (x &&& 31) &&& 1 = 1 then Q (some (.int 1)) (pz_wf ad ix (cw dA ad B E π τ D)) else Q (some (.int 0)) (pz_wf ad ix (cw dA ad B E π τ D))) := by
  rw [e37]
  simp only [pz_o_s, wf_gf hA, wf_gu hA, wf_pf hA, wf_il hA, wf_is hA, wf_rl hA, wf_rs hA, Option.map_some, Option.toList_some, Option.toList_none, List.cons_append, List.nil_append, List.length_cons, List.length_nil, Nat.reduceAdd, Nat.reduceLeDiff, Nat.zero_le, u2_e, Nat.reduceEqDiff, false_and, and_false, true_and, and_true, if_false, if_true, i10, i01, q37_0, q37_1, q37_4, q37_5, q37_6, q37_7, q37_8, q37_9, q37_12, q37_13, q37_16, q37_17z, q37_17o, gu_S hs, gf_S0 hs, gf_S1 hs, gf_S2 hs, gf_S3 hs, gf_S4 hs, gf_S5 hs, gf_S6 hs, pf_S2 hs, pf_S3 hs, pf_S4 hs, pf_S5 hs, pf_S6 hs]
set_option maxHeartbeats 4000000 in
set_option maxRecDepth 20000 in
theorem m38 (hA : ∀ i, ix (ad i) = i) {s : Nat} (hs : s < 2) {x : Int32} : pz_C dA d 38 [.ref (ad (10 + s)), .int x] (pz_wf ad ix (cw dA ad B E π τ D)) Q = (if x ≤ B 3 s + 6 then Q (some (.int 0)) (pz_wf ad ix (cw dA ad B E π τ D)) else Q (some (.int 1)) (pz_wf ad ix (cw dA ad B E π τ D))) := by
  rw [e38]
  simp only [pz_o_s, wf_gf hA, wf_gu hA, wf_pf hA, wf_il hA, wf_is hA, wf_rl hA, wf_rs hA, Option.map_some, Option.toList_some, Option.toList_none, List.cons_append, List.nil_append, List.length_cons, List.length_nil, Nat.reduceAdd, Nat.reduceLeDiff, Nat.zero_le, u2_e, Nat.reduceEqDiff, false_and, and_false, true_and, and_true, if_false, if_true, i10, i01, q38_0, q38_1, q38_2, q38_5, q38_7, q38_8, q38_11, q38_12, q38_15, q38_16z, q38_16o, gu_S hs, gf_S0 hs, gf_S1 hs, gf_S2 hs, gf_S3 hs, gf_S4 hs, gf_S5 hs, gf_S6 hs, pf_S2 hs, pf_S3 hs, pf_S4 hs, pf_S5 hs, pf_S6 hs]
set_option maxHeartbeats 4000000 in
set_option maxRecDepth 20000 in
theorem m39 (hA : ∀ i, ix (ad i) = i) {s : Nat} (hs : s < 2) {x : Int32} : pz_C dA d 39 [.ref (ad (10 + s)), .int x] (pz_wf ad ix (cw dA ad B E π τ D)) Q = (Q none (pz_wf ad ix (cw dA ad (u2 (u2 (u2 (u2 B 2 s 4) 3 s x) 4 s (B 4 s + 1)) 6 s 0) E π τ D))) := by
  rw [e39]
  simp only [pz_o_s, wf_gf hA, wf_gu hA, wf_pf hA, wf_il hA, wf_is hA, wf_rl hA, wf_rs hA, Option.map_some, Option.toList_some, Option.toList_none, List.cons_append, List.nil_append, List.length_cons, List.length_nil, Nat.reduceAdd, Nat.reduceLeDiff, Nat.zero_le, u2_e, Nat.reduceEqDiff, false_and, and_false, true_and, and_true, if_false, if_true, i10, i01, q39_0, q39_1, q39_2, q39_5, q39_6, q39_7, q39_10, q39_11, q39_12, q39_15, q39_16, q39_17, q39_20, q39_21, q39_22, q39_25, gu_S hs, gf_S0 hs, gf_S1 hs, gf_S2 hs, gf_S3 hs, gf_S4 hs, gf_S5 hs, gf_S6 hs, pf_S2 hs, pf_S3 hs, pf_S4 hs, pf_S5 hs, pf_S6 hs]
set_option maxHeartbeats 4000000 in
set_option maxRecDepth 20000 in
theorem m40 (hA : ∀ i, ix (ad i) = i) {s : Nat} (hs : s < 2) {ct x : Int32} : pz_C dA (d + 1) 40 [.ref (ad (10 + s)), .int ct, .int x] (pz_wf ad ix (cw dA ad B E π τ D)) Q = (Q none (pz_wf ad ix (cw dA ad (b_fol B s ct x) E π τ D))) := by
  rw [e40]
  simp only [pz_o_s, wf_gf hA, wf_gu hA, wf_pf hA, wf_il hA, wf_is hA, wf_rl hA, wf_rs hA, Option.map_some, Option.toList_some, Option.toList_none, List.cons_append, List.nil_append, List.length_cons, List.length_nil, Nat.reduceAdd, Nat.reduceLeDiff, Nat.zero_le, u2_e, Nat.reduceEqDiff, false_and, and_false, true_and, and_true, if_false, if_true, i10, i01, q40_0, q40_1, q40_4, q40_5, q40_8, q40_9, q40_12, q40_13, q40_14, q40_17, q40_20, q40_21, q40_24, q40_25, q40_28, q40_29, q40_32, q40_33, q40_34, q40_37, q40_40, q40_41, q40_44, q40_45, q40_48, q40_49, q40_52, q40_53, q40_56, q40_58, q40_61, q40_62, q40_63, q40_66, q40_69, q40_70, q40_71, q40_74, gu_S hs, gf_S0 hs, gf_S1 hs, gf_S2 hs, gf_S3 hs, gf_S4 hs, gf_S5 hs, gf_S6 hs, pf_S2 hs, pf_S3 hs, pf_S4 hs, pf_S5 hs, pf_S6 hs, m38 hA hs]
  by_cases h1 : B 2 s = 1 <;> by_cases h2 : B 2 s = 2 <;> by_cases h3 : B 2 s = 4 <;> by_cases h4 : ct = 0 <;> by_cases h5 : B 6 s = 63 <;> by_cases h6 : x ≤ B 3 s + 6 <;> simp [h1, h2, h3, h4, h5, h6, b_fol]
set_option maxHeartbeats 4000000 in
set_option maxRecDepth 20000 in
theorem i45 (hA : ∀ i, ix (ad i) = i) {s : Nat} (hs : s < 2) {i : Nat} (hi : i < 6) {w : Int32} : pz_R dA (d + 1) 45 2 [.ref (ad (10 + s)), .int w, .int (nI i)] [] (pz_wf ad ix (cw dA ad B E π τ D)) Q = (if (c_lent B s w) i = true then Q (some (.int (nI i))) (pz_wf ad ix (cw dA ad B E π τ D)) else pz_R dA (d + 1) 45 2 [.ref (ad (10 + s)), .int w, .int (nI (i + 1))] [] (pz_wf ad ix (cw dA ad B E π τ D)) Q) := by
  rw [q45_2]
  simp only [pz_o_s, wf_gf hA, wf_gu hA, wf_pf hA, wf_il hA, wf_is hA, wf_rl hA, wf_rs hA, Option.map_some, Option.toList_some, Option.toList_none, List.cons_append, List.nil_append, List.length_cons, List.length_nil, Nat.reduceAdd, Nat.reduceLeDiff, Nat.zero_le, u2_e, Nat.reduceEqDiff, false_and, and_false, true_and, and_true, if_false, if_true, i10, i01, q45_0, q45_1, q45_3, q45_5, q45_8, q45_9, q45_12, q45_13, q45_14, q45_15, q45_18, q45_21, q45_22, q45_23, q45_26, q45_29, q45_30, gu_S hs, gf_S0 hs, gf_S1 hs, gf_S2 hs, gf_S3 hs, gf_S4 hs, gf_S5 hs, gf_S6 hs, pf_S2 hs, pf_S3 hs, pf_S4 hs, pf_S5 hs, pf_S6 hs, gu_R (show 6 * s + i < 12 by omega), gf_R0 (show 6 * s + i < 12 by omega), gf_R1 (show 6 * s + i < 12 by omega), gf_R2 (show 6 * s + i < 12 by omega), gf_R3 (show 6 * s + i < 12 by omega), gf_R4 (show 6 * s + i < 12 by omega), gf_R5 (show 6 * s + i < 12 by omega), gf_R6 (show 6 * s + i < 12 by omega), gf_R7 (show 6 * s + i < 12 by omega), lt6 hi, rl_12 hs hi, nI_1, m50 hA (show 6 * s + i < 12 by omega)]
  by_cases h1 : B 7 (6 * s + i) = 1 <;> by_cases h2 : B 8 (6 * s + i) = w <;> simp [c_lent, h1, h2]
set_option maxHeartbeats 4000000 in
set_option maxRecDepth 20000 in
theorem x45 (hA : ∀ i, ix (ad i) = i) {s : Nat} (hs : s < 2) {w : Int32} : pz_R dA d 45 2 [.ref (ad (10 + s)), .int w, .int (nI 6)] [] (pz_wf ad ix (cw dA ad B E π τ D)) Q = (Q (some (.int (-1))) (pz_wf ad ix (cw dA ad B E π τ D))) := by
  rw [q45_2]
  simp only [pz_o_s, wf_gf hA, wf_gu hA, wf_pf hA, wf_il hA, wf_is hA, wf_rl hA, wf_rs hA, Option.map_some, Option.toList_some, Option.toList_none, List.cons_append, List.nil_append, List.length_cons, List.length_nil, Nat.reduceAdd, Nat.reduceLeDiff, Nat.zero_le, u2_e, Nat.reduceEqDiff, false_and, and_false, true_and, and_true, if_false, if_true, i10, i01, q45_0, q45_1, q45_3, q45_5, q45_8, q45_9, q45_12, q45_13, q45_14, q45_15, q45_18, q45_21, q45_22, q45_23, q45_26, q45_29, q45_30, le6]
theorem l45 (hA : ∀ i, ix (ad i) = i) {s : Nat} (hs : s < 2) {w : Int32} : ∀ (t i : Nat), i + t = 6 → pz_R dA (d + 1) 45 2 [.ref (ad (10 + s)), .int w, .int (nI i)] [] (pz_wf ad ix (cw dA ad B E π τ D)) Q = Q (some (.int (fnd (c_lent B s w) t i))) (pz_wf ad ix (cw dA ad B E π τ D)) := by
  intro t
  induction t with
  | zero =>
    intro i h
    have h : i = 6 := h
    subst h
    exact x45 hA hs
  | succ t ih =>
    intro i h
    rw [i45 hA hs (by omega), ih (i + 1) (by omega)]
    by_cases h9 : (c_lent B s w) i = true
    · simp [fnd, h9]
    · simp [fnd, h9]
set_option maxHeartbeats 4000000 in
set_option maxRecDepth 20000 in
theorem m45 (hA : ∀ i, ix (ad i) = i) {s : Nat} (hs : s < 2) {w : Int32} : pz_C dA (d + 1) 45 [.ref (ad (10 + s)), .int w] (pz_wf ad ix (cw dA ad B E π τ D)) Q = Q (some (.int (fnd (c_lent B s w) 6 0))) (pz_wf ad ix (cw dA ad B E π τ D)) := by
  rw [e45]
  simp only [q45_0, q45_1]
  have h := l45 (dA := dA) (B := B) (E := E) (π := π) (D := D) (τ := τ) (Q := Q) (d := d) (w := w) hA hs 6 0 (by omega)
  rw [nI_0] at h
  exact h
set_option maxHeartbeats 4000000 in
set_option maxRecDepth 20000 in
theorem i46 (hA : ∀ i, ix (ad i) = i) {s : Nat} (hs : s < 2) {i : Nat} (hi : i < 6) {fl : Int32} : pz_R dA d 46 2 [.ref (ad (10 + s)), .int fl, .int (nI i)] [] (pz_wf ad ix (cw dA ad B E π τ D)) Q = (if (c_free B s fl) i = true then Q (some (.int (nI i))) (pz_wf ad ix (cw dA ad B E π τ D)) else pz_R dA d 46 2 [.ref (ad (10 + s)), .int fl, .int (nI (i + 1))] [] (pz_wf ad ix (cw dA ad B E π τ D)) Q) := by
  rw [q46_2]
  simp only [pz_o_s, wf_gf hA, wf_gu hA, wf_pf hA, wf_il hA, wf_is hA, wf_rl hA, wf_rs hA, Option.map_some, Option.toList_some, Option.toList_none, List.cons_append, List.nil_append, List.length_cons, List.length_nil, Nat.reduceAdd, Nat.reduceLeDiff, Nat.zero_le, u2_e, Nat.reduceEqDiff, false_and, and_false, true_and, and_true, if_false, if_true, i10, i01, q46_0, q46_1, q46_3, q46_5, q46_8, q46_9, q46_12, q46_13, q46_14, q46_17, q46_20, q46_21, q46_24, q46_25, q46_26, q46_27, q46_28, q46_31, q46_34, q46_35, q46_36, q46_39, q46_42, q46_43, gu_S hs, gf_S0 hs, gf_S1 hs, gf_S2 hs, gf_S3 hs, gf_S4 hs, gf_S5 hs, gf_S6 hs, pf_S2 hs, pf_S3 hs, pf_S4 hs, pf_S5 hs, pf_S6 hs, gu_R (show 6 * s + i < 12 by omega), gf_R0 (show 6 * s + i < 12 by omega), gf_R1 (show 6 * s + i < 12 by omega), gf_R2 (show 6 * s + i < 12 by omega), gf_R3 (show 6 * s + i < 12 by omega), gf_R4 (show 6 * s + i < 12 by omega), gf_R5 (show 6 * s + i < 12 by omega), gf_R6 (show 6 * s + i < 12 by omega), gf_R7 (show 6 * s + i < 12 by omega), lt6 hi, rl_12 hs hi, nI_1]
  by_cases h1 : B 7 (6 * s + i) = 0 <;> by_cases h2 : fl = 0 <;> by_cases h3 : nI i - nI i / 2 * 2 = nI s <;> simp [c_free, h1, h2, h3]
set_option maxHeartbeats 4000000 in
set_option maxRecDepth 20000 in
theorem x46 (hA : ∀ i, ix (ad i) = i) {s : Nat} (hs : s < 2) {fl : Int32} : pz_R dA d 46 2 [.ref (ad (10 + s)), .int fl, .int (nI 6)] [] (pz_wf ad ix (cw dA ad B E π τ D)) Q = (Q (some (.int (-1))) (pz_wf ad ix (cw dA ad B E π τ D))) := by
  rw [q46_2]
  simp only [pz_o_s, wf_gf hA, wf_gu hA, wf_pf hA, wf_il hA, wf_is hA, wf_rl hA, wf_rs hA, Option.map_some, Option.toList_some, Option.toList_none, List.cons_append, List.nil_append, List.length_cons, List.length_nil, Nat.reduceAdd, Nat.reduceLeDiff, Nat.zero_le, u2_e, Nat.reduceEqDiff, false_and, and_false, true_and, and_true, if_false, if_true, i10, i01, q46_0, q46_1, q46_3, q46_5, q46_8, q46_9, q46_12, q46_13, q46_14, q46_17, q46_20, q46_21, q46_24, q46_25, q46_26, q46_27, q46_28, q46_31, q46_34, q46_35, q46_36, q46_39, q46_42, q46_43, le6]
theorem l46 (hA : ∀ i, ix (ad i) = i) {s : Nat} (hs : s < 2) {fl : Int32} : ∀ (t i : Nat), i + t = 6 → pz_R dA d 46 2 [.ref (ad (10 + s)), .int fl, .int (nI i)] [] (pz_wf ad ix (cw dA ad B E π τ D)) Q = Q (some (.int (fnd (c_free B s fl) t i))) (pz_wf ad ix (cw dA ad B E π τ D)) := by
  intro t
  induction t with
  | zero =>
    intro i h
    have h : i = 6 := h
    subst h
    exact x46 hA hs
  | succ t ih =>
    intro i h
    rw [i46 hA hs (by omega), ih (i + 1) (by omega)]
    by_cases h9 : (c_free B s fl) i = true
    · simp [fnd, h9]
    · simp [fnd, h9]
set_option maxHeartbeats 4000000 in
set_option maxRecDepth 20000 in
theorem m46 (hA : ∀ i, ix (ad i) = i) {s : Nat} (hs : s < 2) {fl : Int32} : pz_C dA d 46 [.ref (ad (10 + s)), .int fl] (pz_wf ad ix (cw dA ad B E π τ D)) Q = Q (some (.int (fnd (c_free B s fl) 6 0))) (pz_wf ad ix (cw dA ad B E π τ D)) := by
  rw [e46]
  simp only [q46_0, q46_1]
  have h := l46 (dA := dA) (B := B) (E := E) (π := π) (D := D) (τ := τ) (Q := Q) (d := d) (fl := fl) hA hs 6 0 (by omega)
  rw [nI_0] at h
  exact h
set_option maxHeartbeats 4000000 in
set_option maxRecDepth 20000 in
theorem i47 (hA : ∀ i, ix (ad i) = i) {s : Nat} (hs : s < 2) {i : Nat} (hi : i < 6) {now : Int32} : pz_R dA (d + 1) 47 2 [.ref (ad (10 + s)), .int now, .int (nI i)] [] (pz_wf ad ix (cw dA ad B E π τ D)) Q = (if (c_past B s now) i = true then Q (some (.int (nI i))) (pz_wf ad ix (cw dA ad B E π τ D)) else pz_R dA (d + 1) 47 2 [.ref (ad (10 + s)), .int now, .int (nI (i + 1))] [] (pz_wf ad ix (cw dA ad B E π τ D)) Q) := by
  rw [q47_2]
  simp only [pz_o_s, wf_gf hA, wf_gu hA, wf_pf hA, wf_il hA, wf_is hA, wf_rl hA, wf_rs hA, Option.map_some, Option.toList_some, Option.toList_none, List.cons_append, List.nil_append, List.length_cons, List.length_nil, Nat.reduceAdd, Nat.reduceLeDiff, Nat.zero_le, u2_e, Nat.reduceEqDiff, false_and, and_false, true_and, and_true, if_false, if_true, i10, i01, q47_0, q47_1, q47_3, q47_5, q47_8, q47_9, q47_12, q47_13, q47_14, q47_15, q47_18, q47_21, q47_22, q47_23, q47_26, q47_29, q47_30, gu_S hs, gf_S0 hs, gf_S1 hs, gf_S2 hs, gf_S3 hs, gf_S4 hs, gf_S5 hs, gf_S6 hs, pf_S2 hs, pf_S3 hs, pf_S4 hs, pf_S5 hs, pf_S6 hs, gu_R (show 6 * s + i < 12 by omega), gf_R0 (show 6 * s + i < 12 by omega), gf_R1 (show 6 * s + i < 12 by omega), gf_R2 (show 6 * s + i < 12 by omega), gf_R3 (show 6 * s + i < 12 by omega), gf_R4 (show 6 * s + i < 12 by omega), gf_R5 (show 6 * s + i < 12 by omega), gf_R6 (show 6 * s + i < 12 by omega), gf_R7 (show 6 * s + i < 12 by omega), lt6 hi, rl_12 hs hi, nI_1, m51 hA (show 6 * s + i < 12 by omega)]
  by_cases h1 : now ≤ B 9 (6 * s + i) + 6 <;> by_cases h2 : now ≤ B 11 (6 * s + i) + 6 <;> simp [c_past, h1, h2]
set_option maxHeartbeats 4000000 in
set_option maxRecDepth 20000 in
theorem x47 (hA : ∀ i, ix (ad i) = i) {s : Nat} (hs : s < 2) {now : Int32} : pz_R dA d 47 2 [.ref (ad (10 + s)), .int now, .int (nI 6)] [] (pz_wf ad ix (cw dA ad B E π τ D)) Q = (Q (some (.int (-1))) (pz_wf ad ix (cw dA ad B E π τ D))) := by
  rw [q47_2]
  simp only [pz_o_s, wf_gf hA, wf_gu hA, wf_pf hA, wf_il hA, wf_is hA, wf_rl hA, wf_rs hA, Option.map_some, Option.toList_some, Option.toList_none, List.cons_append, List.nil_append, List.length_cons, List.length_nil, Nat.reduceAdd, Nat.reduceLeDiff, Nat.zero_le, u2_e, Nat.reduceEqDiff, false_and, and_false, true_and, and_true, if_false, if_true, i10, i01, q47_0, q47_1, q47_3, q47_5, q47_8, q47_9, q47_12, q47_13, q47_14, q47_15, q47_18, q47_21, q47_22, q47_23, q47_26, q47_29, q47_30, le6]
theorem l47 (hA : ∀ i, ix (ad i) = i) {s : Nat} (hs : s < 2) {now : Int32} : ∀ (t i : Nat), i + t = 6 → pz_R dA (d + 1) 47 2 [.ref (ad (10 + s)), .int now, .int (nI i)] [] (pz_wf ad ix (cw dA ad B E π τ D)) Q = Q (some (.int (fnd (c_past B s now) t i))) (pz_wf ad ix (cw dA ad B E π τ D)) := by
  intro t
  induction t with
  | zero =>
    intro i h
    have h : i = 6 := h
    subst h
    exact x47 hA hs
  | succ t ih =>
    intro i h
    rw [i47 hA hs (by omega), ih (i + 1) (by omega)]
    by_cases h9 : (c_past B s now) i = true
    · simp [fnd, h9]
    · simp [fnd, h9]
set_option maxHeartbeats 4000000 in
set_option maxRecDepth 20000 in
theorem m47 (hA : ∀ i, ix (ad i) = i) {s : Nat} (hs : s < 2) {now : Int32} : pz_C dA (d + 1) 47 [.ref (ad (10 + s)), .int now] (pz_wf ad ix (cw dA ad B E π τ D)) Q = Q (some (.int (fnd (c_past B s now) 6 0))) (pz_wf ad ix (cw dA ad B E π τ D)) := by
  rw [e47]
  simp only [q47_0, q47_1]
  have h := l47 (dA := dA) (B := B) (E := E) (π := π) (D := D) (τ := τ) (Q := Q) (d := d) (now := now) hA hs 6 0 (by omega)
  rw [nI_0] at h
  exact h
set_option maxHeartbeats 4000000 in
set_option maxRecDepth 20000 in
theorem i42 (hA : ∀ i, ix (ad i) = i) {s : Nat} (hs : s < 2) {i : Nat} (hi : i < 6) {now : Int32} : pz_R dA (d + 2) 42 2 [.ref (ad (10 + s)), .int now, .int (nI i)] [] (pz_wf ad ix (cw dA ad B E π τ D)) Q = (pz_R dA (d + 2) 42 2 [.ref (ad (10 + s)), .int now, .int (nI (i + 1))] [] (pz_wf ad ix (cw dA ad (b_exp s now B i) E π τ D)) Q) := by
  rw [q42_2]
  simp only [pz_o_s, wf_gf hA, wf_gu hA, wf_pf hA, wf_il hA, wf_is hA, wf_rl hA, wf_rs hA, Option.map_some, Option.toList_some, Option.toList_none, List.cons_append, List.nil_append, List.length_cons, List.length_nil, Nat.reduceAdd, Nat.reduceLeDiff, Nat.zero_le, u2_e, Nat.reduceEqDiff, false_and, and_false, true_and, and_true, if_false, if_true, i10, i01, q42_0, q42_1, q42_3, q42_5, q42_8, q42_9, q42_12, q42_13, q42_14, q42_17, q42_18, q42_21, q42_22, q42_25, q42_26, q42_27, q42_30, q42_31, q42_34, q42_35, q42_38, q42_39, q42_40, q42_43, q42_46, q42_49, gu_S hs, gf_S0 hs, gf_S1 hs, gf_S2 hs, gf_S3 hs, gf_S4 hs, gf_S5 hs, gf_S6 hs, pf_S2 hs, pf_S3 hs, pf_S4 hs, pf_S5 hs, pf_S6 hs, gu_R (show 6 * s + i < 12 by omega), gf_R0 (show 6 * s + i < 12 by omega), gf_R1 (show 6 * s + i < 12 by omega), gf_R2 (show 6 * s + i < 12 by omega), gf_R3 (show 6 * s + i < 12 by omega), gf_R4 (show 6 * s + i < 12 by omega), gf_R5 (show 6 * s + i < 12 by omega), gf_R6 (show 6 * s + i < 12 by omega), gf_R7 (show 6 * s + i < 12 by omega), pf_R0 (show 6 * s + i < 12 by omega), pf_R1 (show 6 * s + i < 12 by omega), pf_R2 (show 6 * s + i < 12 by omega), pf_R3 (show 6 * s + i < 12 by omega), pf_R4 (show 6 * s + i < 12 by omega), pf_R5 (show 6 * s + i < 12 by omega), pf_R6 (show 6 * s + i < 12 by omega), pf_R7 (show 6 * s + i < 12 by omega), lt6 hi, rl_12 hs hi, nI_1, m53 hA (show 6 * s + i < 12 by omega)]
  by_cases h1 : B 7 (6 * s + i) = 1 <;> by_cases h2 : now ≤ B 9 (6 * s + i) <;> simp [b_exp, h1, h2]
set_option maxHeartbeats 4000000 in
set_option maxRecDepth 20000 in
theorem x42 (hA : ∀ i, ix (ad i) = i) {s : Nat} (hs : s < 2) {now : Int32} : pz_R dA d 42 2 [.ref (ad (10 + s)), .int now, .int (nI 6)] [] (pz_wf ad ix (cw dA ad B E π τ D)) Q = (Q none (pz_wf ad ix (cw dA ad B E π τ D))) := by
  rw [q42_2]
  simp only [pz_o_s, wf_gf hA, wf_gu hA, wf_pf hA, wf_il hA, wf_is hA, wf_rl hA, wf_rs hA, Option.map_some, Option.toList_some, Option.toList_none, List.cons_append, List.nil_append, List.length_cons, List.length_nil, Nat.reduceAdd, Nat.reduceLeDiff, Nat.zero_le, u2_e, Nat.reduceEqDiff, false_and, and_false, true_and, and_true, if_false, if_true, i10, i01, q42_0, q42_1, q42_3, q42_5, q42_8, q42_9, q42_12, q42_13, q42_14, q42_17, q42_18, q42_21, q42_22, q42_25, q42_26, q42_27, q42_30, q42_31, q42_34, q42_35, q42_38, q42_39, q42_40, q42_43, q42_46, q42_49, le6]
theorem l42 (hA : ∀ i, ix (ad i) = i) {s : Nat} (hs : s < 2) {now : Int32} : ∀ (t i : Nat) (B : Nat → Nat → Int32), i + t = 6 → pz_R dA (d + 2) 42 2 [.ref (ad (10 + s)), .int now, .int (nI i)] [] (pz_wf ad ix (cw dA ad B E π τ D)) Q = Q none (pz_wf ad ix (cw dA ad (lp (b_exp s now) t i B) E π τ D)) := by
  intro t
  induction t with
  | zero =>
    intro i B h
    have h : i = 6 := h
    subst h
    exact x42 hA hs
  | succ t ih =>
    intro i B h
    rw [i42 hA hs (by omega), ih (i + 1) _ (by omega)]
    rfl
set_option maxHeartbeats 4000000 in
set_option maxRecDepth 20000 in
theorem m42 (hA : ∀ i, ix (ad i) = i) {s : Nat} (hs : s < 2) {now : Int32} : pz_C dA (d + 2) 42 [.ref (ad (10 + s)), .int now] (pz_wf ad ix (cw dA ad B E π τ D)) Q = Q none (pz_wf ad ix (cw dA ad (lp (b_exp s now) 6 0 B) E π τ D)) := by
  rw [e42]
  simp only [q42_0, q42_1]
  have h := l42 (dA := dA) (E := E) (π := π) (D := D) (τ := τ) (Q := Q) (d := d) (now := now) hA hs 6 0 B (by omega)
  rw [nI_0] at h
  exact h
set_option maxHeartbeats 4000000 in
set_option maxRecDepth 20000 in
theorem i43 (hA : ∀ i, ix (ad i) = i) {s : Nat} (hs : s < 2) {i : Nat} (hi : i < 6) {x : Int32} : pz_R dA d 43 2 [.ref (ad (10 + s)), .int x, .int (nI i)] [] (pz_wf ad ix (cw dA ad B E π τ D)) Q = (pz_R dA d 43 2 [.ref (ad (10 + s)), .int x, .int (nI (i + 1))] [] (pz_wf ad ix (cw dA ad (b_drt s x B i) E π τ D)) Q) := by
  rw [q43_2]
  simp only [pz_o_s, wf_gf hA, wf_gu hA, wf_pf hA, wf_il hA, wf_is hA, wf_rl hA, wf_rs hA, Option.map_some, Option.toList_some, Option.toList_none, List.cons_append, List.nil_append, List.length_cons, List.length_nil, Nat.reduceAdd, Nat.reduceLeDiff, Nat.zero_le, u2_e, Nat.reduceEqDiff, false_and, and_false, true_and, and_true, if_false, if_true, i10, i01, q43_0, q43_1, q43_3, q43_5, q43_8, q43_9, q43_10, q43_11, q43_12, q43_13, q43_14, q43_17, q43_18, q43_21, q43_22, q43_23, q43_24z, q43_24o, q43_27, q43_30, q43_33, gu_S hs, gf_S0 hs, gf_S1 hs, gf_S2 hs, gf_S3 hs, gf_S4 hs, gf_S5 hs, gf_S6 hs, pf_S2 hs, pf_S3 hs, pf_S4 hs, pf_S5 hs, pf_S6 hs, gu_R (show 6 * s + i < 12 by omega), gf_R0 (show 6 * s + i < 12 by omega), gf_R1 (show 6 * s + i < 12 by omega), gf_R2 (show 6 * s + i < 12 by omega), gf_R3 (show 6 * s + i < 12 by omega), gf_R4 (show 6 * s + i < 12 by omega), gf_R5 (show 6 * s + i < 12 by omega), gf_R6 (show 6 * s + i < 12 by omega), gf_R7 (show 6 * s + i < 12 by omega), pf_R0 (show 6 * s + i < 12 by omega), pf_R1 (show 6 * s + i < 12 by omega), pf_R2 (show 6 * s + i < 12 by omega), pf_R3 (show 6 * s + i < 12 by omega), pf_R4 (show 6 * s + i < 12 by omega), pf_R5 (show 6 * s + i < 12 by omega), pf_R6 (show 6 * s + i < 12 by omega), pf_R7 (show 6 * s + i < 12 by omega), lt6 hi, rl_12 hs hi, nI_1]
  by_cases h1 : x >>> (nI i &&& 31) &&& 1 = 1 <;> simp [b_drt, h1]
set_option maxHeartbeats 4000000 in
set_option maxRecDepth 20000 in
theorem x43 (hA : ∀ i, ix (ad i) = i) {s : Nat} (hs : s < 2) {x : Int32} : pz_R dA d 43 2 [.ref (ad (10 + s)), .int x, .int (nI 6)] [] (pz_wf ad ix (cw dA ad B E π τ D)) Q = (Q none (pz_wf ad ix (cw dA ad B E π τ D))) := by
  rw [q43_2]
  simp only [pz_o_s, wf_gf hA, wf_gu hA, wf_pf hA, wf_il hA, wf_is hA, wf_rl hA, wf_rs hA, Option.map_some, Option.toList_some, Option.toList_none, List.cons_append, List.nil_append, List.length_cons, List.length_nil, Nat.reduceAdd, Nat.reduceLeDiff, Nat.zero_le, u2_e, Nat.reduceEqDiff, false_and, and_false, true_and, and_true, if_false, if_true, i10, i01, q43_0, q43_1, q43_3, q43_5, q43_8, q43_9, q43_10, q43_11, q43_12, q43_13, q43_14, q43_17, q43_18, q43_21, q43_22, q43_23, q43_24z, q43_24o, q43_27, q43_30, q43_33, le6]
theorem l43 (hA : ∀ i, ix (ad i) = i) {s : Nat} (hs : s < 2) {x : Int32} : ∀ (t i : Nat) (B : Nat → Nat → Int32), i + t = 6 → pz_R dA d 43 2 [.ref (ad (10 + s)), .int x, .int (nI i)] [] (pz_wf ad ix (cw dA ad B E π τ D)) Q = Q none (pz_wf ad ix (cw dA ad (lp (b_drt s x) t i B) E π τ D)) := by
  intro t
  induction t with
  | zero =>
    intro i B h
    have h : i = 6 := h
    subst h
    exact x43 hA hs
  | succ t ih =>
    intro i B h
    rw [i43 hA hs (by omega), ih (i + 1) _ (by omega)]
    rfl
set_option maxHeartbeats 4000000 in
set_option maxRecDepth 20000 in
theorem m43 (hA : ∀ i, ix (ad i) = i) {s : Nat} (hs : s < 2) {x : Int32} : pz_C dA d 43 [.ref (ad (10 + s)), .int x] (pz_wf ad ix (cw dA ad B E π τ D)) Q = Q none (pz_wf ad ix (cw dA ad (lp (b_drt s x) 6 0 B) E π τ D)) := by
  rw [e43]
  simp only [q43_0, q43_1]
  have h := l43 (dA := dA) (E := E) (π := π) (D := D) (τ := τ) (Q := Q) (d := d) (x := x) hA hs 6 0 B (by omega)
  rw [nI_0] at h
  exact h
set_option maxHeartbeats 4000000 in
set_option maxRecDepth 20000 in
theorem m44 (hA : ∀ i, ix (ad i) = i) {s : Nat} (hs : s < 2) {w now : Int32} : pz_C dA (d + 2) 44 [.ref (ad (10 + s)), .int w, .int now] (pz_wf ad ix (cw dA ad B E π τ D)) Q = (Q (some (.int (chs B s w now))) (pz_wf ad ix (cw dA ad B E π τ D))) := by
  rw [e44]
  simp only [pz_o_s, wf_gf hA, wf_gu hA, wf_pf hA, wf_il hA, wf_is hA, wf_rl hA, wf_rs hA, Option.map_some, Option.toList_some, Option.toList_none, List.cons_append, List.nil_append, List.length_cons, List.length_nil, Nat.reduceAdd, Nat.reduceLeDiff, Nat.zero_le, u2_e, Nat.reduceEqDiff, false_and, and_false, true_and, and_true, if_false, if_true, i10, i01, q44_0, q44_1, q44_2, q44_5, q44_6, q44_7, q44_8, q44_11, q44_12, q44_13, q44_16, q44_17, q44_18, q44_19, q44_22, q44_23, q44_26, q44_27, q44_30, q44_31, q44_32, q44_35, q44_38, q44_39, q44_40, q44_41, q44_42, q44_45, q44_46, q44_47, q44_48, q44_51, q44_52, q44_53, q44_56, q44_59, q44_60, gu_S hs, gf_S0 hs, gf_S1 hs, gf_S2 hs, gf_S3 hs, gf_S4 hs, gf_S5 hs, gf_S6 hs, pf_S2 hs, pf_S3 hs, pf_S4 hs, pf_S5 hs, pf_S6 hs, m45 hA hs, m46 hA hs, m47 hA hs, m38 hA hs]
  by_cases h1 : fnd (c_lent B s w) 6 0 = -1 <;> by_cases h2 : fnd (c_free B s 1) 6 0 = -1 <;> by_cases h3 : B 2 s = 3 <;> by_cases h4 : now ≤ B 3 s + 6 <;> by_cases h5 : fnd (c_free B s 0) 6 0 = -1 <;> simp [h1, h2, h3, h4, h5, chs]
set_option maxHeartbeats 4000000 in
set_option maxRecDepth 20000 in
theorem m41 (hA : ∀ i, ix (ad i) = i) {s : Nat} (hs : s < 2) {a m : Nat} (ha : a < 6) (hm : m < 25) (he : E m 5 = nI a) {now : Int32} : pz_C dA (d + 3) 41 [.ref (ad (10 + s)), .ref (ad (60 + m)), .int now] (pz_wf ad ix (cw dA ad B E π τ D)) Q = (oq (tuA B s a now (E m 6) (E m 7) (E m 8) (E m 9) (E m 11) (E m 12)) (fun B => Q (some (.int 1)) (pz_wf ad ix (cw dA ad B E π τ D))) (Q (some (.int 0)) (pz_wf ad ix (cw dA ad B E π τ D)))) := by
  rw [e41]
  simp only [pz_o_s, wf_gf hA, wf_gu hA, wf_pf hA, wf_il hA, wf_is hA, wf_rl hA, wf_rs hA, Option.map_some, Option.toList_some, Option.toList_none, List.cons_append, List.nil_append, List.length_cons, List.length_nil, Nat.reduceAdd, Nat.reduceLeDiff, Nat.zero_le, u2_e, Nat.reduceEqDiff, false_and, and_false, true_and, and_true, if_false, if_true, i10, i01, q41_0, q41_1, q41_4, q41_4n, q41_5, q41_8, q41_9, q41_9n, q41_10, q41_11, q41_14, q41_15, q41_18, q41_18n, q41_19, q41_19n, q41_20, q41_21, q41_24z, q41_24o, q41_25, q41_25n, q41_26, q41_29, q41_30, q41_33, q41_36, q41_37z, q41_37o, q41_38, q41_39, q41_39n, q41_40, q41_43, q41_46, q41_49, q41_49n, q41_50, q41_50n, q41_51, q41_52, q41_55z, q41_55o, q41_56, q41_56n, q41_57, q41_57n, q41_58, q41_59, q41_62, q41_64, q41_66, q41_69, q41_70, q41_71, q41_74, q41_75, q41_75n, q41_76, q41_79, q41_80, q41_81, q41_84, q41_86z, q41_86o, gu_S hs, gf_S0 hs, gf_S1 hs, gf_S2 hs, gf_S3 hs, gf_S4 hs, gf_S5 hs, gf_S6 hs, pf_S2 hs, pf_S3 hs, pf_S4 hs, pf_S5 hs, pf_S6 hs, gu_R (show 6 * s + a < 12 by omega), gf_R0 (show 6 * s + a < 12 by omega), gf_R1 (show 6 * s + a < 12 by omega), gf_R2 (show 6 * s + a < 12 by omega), gf_R3 (show 6 * s + a < 12 by omega), gf_R4 (show 6 * s + a < 12 by omega), gf_R5 (show 6 * s + a < 12 by omega), gf_R6 (show 6 * s + a < 12 by omega), gf_R7 (show 6 * s + a < 12 by omega), tuA, oq_if, oq_n, oq_m, gu_M hm, gf_M0 hm, gf_M1 hm, gf_M2 hm, gf_M3 hm, gf_M4 hm, gf_M5 hm, gf_M6 hm, gf_M7 hm, gf_M8 hm, gf_M9 hm, gf_M10 hm, gf_M11 hm, gf_M12 hm, gf_M13 hm, gf_M14 hm, he, rl_12 hs ha, m60 hA (show 6 * s + a < 12 by omega) hm, m58 hA (show 6 * s + a < 12 by omega) hm, m37 hA hs]
end SM
