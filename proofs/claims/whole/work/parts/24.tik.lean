/-! the system's own methods: a tick -/
def cOK (B : Nat → Nat → Int32) : Prop := ∃ n, n ≤ 24 ∧ B 20 0 = nI n
theorem pB_k {B : Nat → Nat → Int32} {k i : Nat} (h : k ≠ 20) : pB B k i = B k i := by
  unfold pB
  split
  · rfl
  · exact u2_k B 0 i _ h
theorem pB_ok {B : Nat → Nat → Int32} (h : cOK B) : cOK (pB B) := by
  obtain ⟨n, hn, hc⟩ := h
  rcases Nat.lt_or_ge n 24 with h | h
  · exact ⟨n + 1, by omega, by rw [pB_lt h hc, u2_s]⟩
  · have h9 : n = 24 := by omega
    subst h9
    exact ⟨24, hn, by rw [pB_24 hc, hc]⟩
def ulist (B : Nat → Nat → Int32) (s a : Nat) : List (Nat × Int32) := [(0, 4), (1, nI s), (2, nI (1 - s)), (3, B 0 0), (5, nI a), (6, B 7 (6 * s + a)), (7, B 8 (6 * s + a)), (8, B 9 (6 * s + a)), (9, B 12 (6 * s + a)), (10, B 13 (6 * s + a)), (11, B 0 0 + 20), (12, B 5 s)]
def dlist (B : Nat → Nat → Int32) (s : Nat) : List (Nat × Int32) := [(0, 6), (1, nI s), (2, nI (1 - s)), (3, B 0 0), (13, 63 &&& (B 6 s ^^^ -1)), (12, B 4 s)]
abbrev BE : Type := (Nat → Nat → Int32) × (Nat → Nat → Int32)
def su (π : Nat → Nat) (s : Nat) : Nat → Nat → Nat → BE → BE
  | 0, _, _, x => x
  | t + 1, a, c, x => if c < 2 then (if x.1 14 (6 * s + a) = 0 then su π s t (a + 1) c x else su π s t (a + 1) (c + 1) (pB x.1, pE x.1 x.2 π (ulist x.1 s a))) else x
theorem su_k (π : Nat → Nat) (s : Nat) {k i : Nat} (h : k ≠ 20) : ∀ (t a c : Nat) (x : BE), (su π s t a c x).1 k i = x.1 k i := by
  intro t
  induction t with
  | zero => intro a c x; rfl
  | succ t ih =>
    intro a c x
    unfold su
    split
    · split
      · exact ih _ _ _
      · rw [ih]
        exact pB_k h
    · rfl
theorem su_ok (π : Nat → Nat) (s : Nat) : ∀ (t a c : Nat) (x : BE), cOK x.1 → cOK (su π s t a c x).1 := by
  intro t
  induction t with
  | zero => intro a c x h; exact h
  | succ t ih =>
    intro a c x h
    unfold su
    split
    · split
      · exact ih _ _ _ h
      · exact ih _ _ _ (pB_ok h)
    · exact h
def tel (π : Nat → Nat) (s : Nat) (x : BE) : BE := if x.1 2 s = 1 then su π s 6 0 0 x else if x.1 2 s = 4 ∧ ¬ x.1 6 s = 63 then (pB x.1, pE x.1 x.2 π (dlist x.1 s)) else x
def srv (B : Nat → Nat → Int32) (s : Nat) : Bool := decide (B 2 s = 1) || decide (B 2 s = 2) || decide (B 2 s = 3)
def tkB (s : Nat) (B : Nat → Nat → Int32) : Nat → Nat → Int32 := if srv (b_fol B s (bi (ctc B = true)) (B 0 0)) s = true then lp (b_exp s (B 0 0)) 6 0 (b_fol B s (bi (ctc B = true)) (B 0 0)) else b_fol B s (bi (ctc B = true)) (B 0 0)
def tks (π : Nat → Nat) (s : Nat) (x : BE) : BE := if ctc (tkB s x.1) = true then tel π s (tkB s x.1, x.2) else (tkB s x.1, x.2)
theorem b_fol_k {B : Nat → Nat → Int32} {s k i : Nat} {ct x : Int32} (h : k ≠ 2) : b_fol B s ct x k i = B k i := by
  unfold b_fol
  split
  · exact u2_k B s i _ h
  · split
    · exact u2_k B s i _ h
    · split
      · exact u2_k B s i _ h
      · rfl
theorem b_end_k {B : Nat → Nat → Int32} {s k i : Nat} (h : k < 7 ∨ 14 < k) : b_end B s k i = B k i := by
  unfold b_end b_chg
  rw [u2_k _ _ _ _ (by omega), u2_k _ _ _ _ (by omega), u2_k _ _ _ _ (by omega)]
theorem b_exp_k {B : Nat → Nat → Int32} {s a k i : Nat} {x : Int32} (h : k < 7 ∨ 14 < k) : b_exp s x B a k i = B k i := by
  unfold b_exp
  split
  · split
    · rfl
    · exact b_end_k h
  · rfl
theorem lp_exp_k {s k i : Nat} {x : Int32} (h : k < 7 ∨ 14 < k) : ∀ (t a : Nat) (B : Nat → Nat → Int32), lp (b_exp s x) t a B k i = B k i := by
  intro t
  induction t with
  | zero => intro a B; rfl
  | succ t ih =>
    intro a B
    show lp (b_exp s x) t (a + 1) (b_exp s x B a) k i = B k i
    rw [ih, b_exp_k h]
theorem tkB_k {B : Nat → Nat → Int32} {s k i : Nat} (h : (k < 7 ∨ 14 < k) ∧ k ≠ 2) : tkB s B k i = B k i := by
  unfold tkB
  split
  · rw [lp_exp_k h.1, b_fol_k h.2]
  · exact b_fol_k h.2
section TM
variable {dA ad ix : Nat → Nat} {B E D : Nat → Nat → Int32} {π : Nat → Nat} {τ d : Nat} {Q : Option Value → pz_F → Prop}

set_option maxHeartbeats 400000 in
set_option maxRecDepth 20000 in
theorem i22 (hA : ∀ i, ix (ad i) = i) {s : Nat} (hs : s < 2) (hp : ∀ j, π j < 25) (hk : cOK B) {a c : Nat} (ha : a < 6) (hcc : c < 2) : pz_R dA (d + 2) 22 4 [.ref (ad 0), .ref (ad (10 + s)), .int (nI c), .int (nI a)] [] (pz_wf ad ix (cw dA ad B E π τ D)) Q = (if B 14 (6 * s + a) = 0 then pz_R dA (d + 2) 22 4 [.ref (ad 0), .ref (ad (10 + s)), .int (nI c), .int (nI (a + 1))] [] (pz_wf ad ix (cw dA ad B E π τ D)) Q else pz_R dA (d + 2) 22 4 [.ref (ad 0), .ref (ad (10 + s)), .int (nI (c + 1)), .int (nI (a + 1))] [] (pz_wf ad ix (cw dA ad (pB B) (pE B E π (ulist B s a)) π τ D)) Q) := by
  obtain ⟨n, hn, hc⟩ := hk
  have h2 : ((2 : Int32) ≤ nI c) = False := nle_nI (a := 2) hcc (by decide)
  rw [q22_4]
  simp only [pz_o_s, wf_gf hA, wf_gu hA, wf_pf hA, wf_il hA, wf_is hA, wf_rl hA, wf_rs hA, Option.map_some, Option.toList_some, Option.toList_none, List.cons_append, List.nil_append, List.length_cons, List.length_nil, Nat.reduceAdd, Nat.reduceLeDiff, Nat.zero_le, u2_e, Nat.reduceEqDiff, false_and, and_false, true_and, and_true, if_false, if_true, i10, i01, q22_0, q22_1, q22_2, q22_3, q22_5, q22_7, q22_10, q22_11, q22_12, q22_15, q22_15n, q22_16, q22_19, q22_20, q22_21, q22_24, q22_27, q22_28, q22_28n, q22_29, q22_30, q22_33, q22_36, q22_39, q22_42, gu_S hs, gf_S0 hs, gf_S1 hs, gf_S2 hs, gf_S3 hs, gf_S4 hs, gf_S5 hs, gf_S6 hs, pf_S2 hs, pf_S3 hs, pf_S4 hs, pf_S5 hs, pf_S6 hs, gu_P, gu_R (show 6 * s + a < 12 by omega), gf_R0 (show 6 * s + a < 12 by omega), gf_R1 (show 6 * s + a < 12 by omega), gf_R2 (show 6 * s + a < 12 by omega), gf_R3 (show 6 * s + a < 12 by omega), gf_R4 (show 6 * s + a < 12 by omega), gf_R5 (show 6 * s + a < 12 by omega), gf_R6 (show 6 * s + a < 12 by omega), gf_R7 (show 6 * s + a < 12 by omega), lt6 ha, h2, rl_12 hs ha, nI_1, m23 hA hn hp hs ha hc, gu_P]
  rfl
set_option maxHeartbeats 400000 in
set_option maxRecDepth 20000 in
theorem x22 (hA : ∀ i, ix (ad i) = i) {s : Nat} (hs : s < 2) {c : Nat} : pz_R dA d 22 4 [.ref (ad 0), .ref (ad (10 + s)), .int (nI c), .int (nI 6)] [] (pz_wf ad ix (cw dA ad B E π τ D)) Q = (Q none (pz_wf ad ix (cw dA ad B E π τ D))) := by
  rw [q22_4]
  simp only [pz_o_s, wf_gf hA, wf_gu hA, wf_pf hA, wf_il hA, wf_is hA, wf_rl hA, wf_rs hA, Option.map_some, Option.toList_some, Option.toList_none, List.cons_append, List.nil_append, List.length_cons, List.length_nil, Nat.reduceAdd, Nat.reduceLeDiff, Nat.zero_le, u2_e, Nat.reduceEqDiff, false_and, and_false, true_and, and_true, if_false, if_true, i10, i01, q22_0, q22_1, q22_2, q22_3, q22_5, q22_7, q22_10, q22_11, q22_12, q22_15, q22_15n, q22_16, q22_19, q22_20, q22_21, q22_24, q22_27, q22_28, q22_28n, q22_29, q22_30, q22_33, q22_36, q22_39, q22_42, le6]
set_option maxHeartbeats 400000 in
set_option maxRecDepth 20000 in
theorem y22 (hA : ∀ i, ix (ad i) = i) {s : Nat} (hs : s < 2) {a c : Nat} (ha : a < 6) (hcc : 2 ≤ c) (hc9 : c < 9) : pz_R dA d 22 4 [.ref (ad 0), .ref (ad (10 + s)), .int (nI c), .int (nI a)] [] (pz_wf ad ix (cw dA ad B E π τ D)) Q = Q none (pz_wf ad ix (cw dA ad B E π τ D)) := by
  have h2 : ((2 : Int32) ≤ nI c) = True := le_nI (a := 2) hcc (by omega)
  rw [q22_4]
  simp only [pz_o_s, wf_gf hA, wf_gu hA, wf_pf hA, wf_il hA, wf_is hA, wf_rl hA, wf_rs hA, Option.map_some, Option.toList_some, Option.toList_none, List.cons_append, List.nil_append, List.length_cons, List.length_nil, Nat.reduceAdd, Nat.reduceLeDiff, Nat.zero_le, u2_e, Nat.reduceEqDiff, false_and, and_false, true_and, and_true, if_false, if_true, i10, i01, q22_0, q22_1, q22_2, q22_3, q22_5, q22_7, q22_10, q22_11, q22_12, q22_15, q22_15n, q22_16, q22_19, q22_20, q22_21, q22_24, q22_27, q22_28, q22_28n, q22_29, q22_30, q22_33, q22_36, q22_39, q22_42, lt6 ha, h2]
theorem l22 (hA : ∀ i, ix (ad i) = i) {s : Nat} (hs : s < 2) (hp : ∀ j, π j < 25) : ∀ (t a c : Nat) (B E : Nat → Nat → Int32), a + t = 6 → c ≤ a → cOK B → pz_R dA (d + 2) 22 4 [.ref (ad 0), .ref (ad (10 + s)), .int (nI c), .int (nI a)] [] (pz_wf ad ix (cw dA ad B E π τ D)) Q = Q none (pz_wf ad ix (cw dA ad (su π s t a c (B, E)).1 (su π s t a c (B, E)).2 π τ D)) := by
  intro t
  induction t with
  | zero =>
    intro a c B E h hca hk
    have h : a = 6 := h
    subst h
    exact x22 hA hs
  | succ t ih =>
    intro a c B E h hca hk
    by_cases hcc : c < 2
    · rw [i22 hA hs hp hk (by omega) hcc]
      by_cases h9 : B 14 (6 * s + a) = 0
      · rw [if_pos h9, ih (a + 1) c B E (by omega) (by omega) hk]
        simp only [su, hcc, h9, if_true]
      · rw [if_neg h9, ih (a + 1) (c + 1) _ _ (by omega) (by omega) (pB_ok hk)]
        simp only [su, hcc, h9, if_true, if_false]
    · rw [y22 hA hs (by omega) (by omega) (by omega)]
      simp only [su, hcc, if_false]
set_option maxHeartbeats 400000 in
set_option maxRecDepth 20000 in
theorem m22 (hA : ∀ i, ix (ad i) = i) {s : Nat} (hs : s < 2) (hp : ∀ j, π j < 25) (hk : cOK B) : pz_C dA (d + 2) 22 [.ref (ad 0), .ref (ad (10 + s))] (pz_wf ad ix (cw dA ad B E π τ D)) Q = Q none (pz_wf ad ix (cw dA ad (su π s 6 0 0 (B, E)).1 (su π s 6 0 0 (B, E)).2 π τ D)) := by
  rw [e22]
  simp only [q22_0, q22_1, q22_2, q22_3]
  have h := l22 (dA := dA) (D := D) (τ := τ) (Q := Q) (d := d) hA hs hp 6 0 0 B E (by omega) (by omega) hk
  rw [nI_0] at h
  exact h
set_option maxHeartbeats 400000 in
set_option maxRecDepth 20000 in
theorem m21 (hA : ∀ i, ix (ad i) = i) {s : Nat} (hs : s < 2) (hp : ∀ j, π j < 25) (hk : cOK B) : pz_C dA (d + 3) 21 [.ref (ad 0), .ref (ad (10 + s))] (pz_wf ad ix (cw dA ad B E π τ D)) Q = Q none (pz_wf ad ix (cw dA ad (tel π s (B, E)).1 (tel π s (B, E)).2 π τ D)) := by
  rw [e21]
  obtain ⟨n, hn, hc⟩ := id hk
  simp only [pz_o_s, wf_gf hA, wf_gu hA, wf_pf hA, wf_il hA, wf_is hA, wf_rl hA, wf_rs hA, Option.map_some, Option.toList_some, Option.toList_none, List.cons_append, List.nil_append, List.length_cons, List.length_nil, Nat.reduceAdd, Nat.reduceLeDiff, Nat.zero_le, u2_e, Nat.reduceEqDiff, false_and, and_false, true_and, and_true, if_false, if_true, i10, i01, q21_0, q21_0n, q21_1, q21_4, q21_5, q21_8, q21_9, q21_9n, q21_10, q21_13, q21_13n, q21_14, q21_17, q21_18, q21_21, q21_21n, q21_22, q21_25, q21_27, q21_30, q21_31, q21_31n, q21_32, q21_35, gu_S hs, gf_S0 hs, gf_S1 hs, gf_S2 hs, gf_S3 hs, gf_S4 hs, gf_S5 hs, gf_S6 hs, pf_S2 hs, pf_S3 hs, pf_S4 hs, pf_S5 hs, pf_S6 hs, gu_P, m22 hA hs hp hk, m24 hA hn hp hs hc, su_k π s (show 2 ≠ 20 by decide), su_k π s (show 6 ≠ 20 by decide)]
  by_cases h1 : B 2 s = 1 <;> by_cases h2 : B 2 s = 4 <;> by_cases h3 : B 6 s = 63 <;> simp [tel, dlist, h1, h2, h3]
set_option maxHeartbeats 400000 in
set_option maxRecDepth 20000 in
theorem m36s (hA : ∀ i, ix (ad i) = i) {s : Nat} (hs : s < 2) : pz_C dA d 36 [.ref (ad (10 + s))] (pz_wf ad ix (cw dA ad B E π τ D)) Q = (if srv B s = true then Q (some (.int 1)) (pz_wf ad ix (cw dA ad B E π τ D)) else Q (some (.int 0)) (pz_wf ad ix (cw dA ad B E π τ D))) := by
  rw [m36 hA hs]
  by_cases h1 : B 2 s = 1 <;> by_cases h2 : B 2 s = 2 <;> by_cases h3 : B 2 s = 3 <;> simp [srv, h1, h2, h3]
set_option maxHeartbeats 400000 in
set_option maxRecDepth 20000 in
theorem m20 (hA : ∀ i, ix (ad i) = i) {s : Nat} (hs : s < 2) (hp : ∀ j, π j < 25) (hk : cOK B) : pz_C dA (d + 4) 20 [.ref (ad 0), .ref (ad (10 + s))] (pz_wf ad ix (cw dA ad B E π τ D)) Q = Q none (pz_wf ad ix (cw dA ad (tks π s (B, E)).1 (tks π s (B, E)).2 π τ D)) := by
  rw [e20]
  have hf : ∀ ct, cOK (b_fol B s ct (B 0 0)) := by
    obtain ⟨n, hn, hc⟩ := hk
    exact fun ct => ⟨n, hn, by rw [b_fol_k (by decide)]; exact hc⟩
  have hl : ∀ ct, cOK (lp (b_exp s (B 0 0)) 6 0 (b_fol B s ct (B 0 0))) := by
    obtain ⟨n, hn, hc⟩ := hk
    exact fun ct => ⟨n, hn, by rw [lp_exp_k (by omega), b_fol_k (by decide)]; exact hc⟩
  simp only [pz_o_s, wf_gf hA, wf_gu hA, wf_pf hA, wf_il hA, wf_is hA, wf_rl hA, wf_rs hA, Option.map_some, Option.toList_some, Option.toList_none, List.cons_append, List.nil_append, List.length_cons, List.length_nil, Nat.reduceAdd, Nat.reduceLeDiff, Nat.zero_le, u2_e, Nat.reduceEqDiff, false_and, and_false, true_and, and_true, if_false, if_true, i10, i01, q20_0, q20_0n, q20_1, q20_2, q20_5, q20_6, q20_9, q20_12, q20_12n, q20_13, q20_16, q20_19, q20_19n, q20_20, q20_21, q20_24, q20_27, q20_28, q20_31, q20_34, q20_35, q20_35n, q20_36, q20_39, gu_S hs, gf_S0 hs, gf_S1 hs, gf_S2 hs, gf_S3 hs, gf_S4 hs, gf_S5 hs, gf_S6 hs, pf_S2 hs, pf_S3 hs, pf_S4 hs, pf_S5 hs, pf_S6 hs, gu_P, gf_P0, gf_P1, gf_P2, gf_P3, gf_P4, pf_P0, pf_P1, m19 hA, m40 hA hs, m36s hA hs, m42 hA hs, b_fol_k (show 0 ≠ 2 by decide), lp_exp_k (show 0 < 7 ∨ 14 < 0 by decide), m21 hA hs hp (hf 0), m21 hA hs hp (hf 1), m21 hA hs hp (hl 0), m21 hA hs hp (hl 1)]
  by_cases h1 : ctc B = true
  · by_cases h2 : srv (b_fol B s 1 (B 0 0)) s = true
    · have e : tkB s B = lp (b_exp s (B 0 0)) 6 0 (b_fol B s 1 (B 0 0)) := by
        unfold tkB bi
        simp only [h1, h2, if_true, if_false, Bool.false_eq_true]
      by_cases h3 : ctc (lp (b_exp s (B 0 0)) 6 0 (b_fol B s 1 (B 0 0))) = true
      · simp only [h1, h2, h3, tks, e, if_true, if_false, Bool.false_eq_true]
      · simp only [h1, h2, h3, tks, e, if_true, if_false, Bool.false_eq_true]
    · have e : tkB s B = b_fol B s 1 (B 0 0) := by
        unfold tkB bi
        simp only [h1, h2, if_true, if_false, Bool.false_eq_true]
      by_cases h3 : ctc (b_fol B s 1 (B 0 0)) = true
      · simp only [h1, h2, h3, tks, e, if_true, if_false, Bool.false_eq_true]
      · simp only [h1, h2, h3, tks, e, if_true, if_false, Bool.false_eq_true]
  · by_cases h2 : srv (b_fol B s 0 (B 0 0)) s = true
    · have e : tkB s B = lp (b_exp s (B 0 0)) 6 0 (b_fol B s 0 (B 0 0)) := by
        unfold tkB bi
        simp only [h1, h2, if_true, if_false, Bool.false_eq_true]
      by_cases h3 : ctc (lp (b_exp s (B 0 0)) 6 0 (b_fol B s 0 (B 0 0))) = true
      · simp only [h1, h2, h3, tks, e, if_true, if_false, Bool.false_eq_true]
      · simp only [h1, h2, h3, tks, e, if_true, if_false, Bool.false_eq_true]
    · have e : tkB s B = b_fol B s 0 (B 0 0) := by
        unfold tkB bi
        simp only [h1, h2, if_true, if_false, Bool.false_eq_true]
      by_cases h3 : ctc (b_fol B s 0 (B 0 0)) = true
      · simp only [h1, h2, h3, tks, e, if_true, if_false, Bool.false_eq_true]
      · simp only [h1, h2, h3, tks, e, if_true, if_false, Bool.false_eq_true]
theorem tks_k {π : Nat → Nat} {s k i : Nat} {x : BE} (h : (k < 7 ∨ 14 < k) ∧ k ≠ 2 ∧ k ≠ 20) : (tks π s x).1 k i = x.1 k i := by
  unfold tks
  split
  · unfold tel
    split
    · rw [su_k π s h.2.2]
      exact tkB_k ⟨h.1, h.2.1⟩
    · split
      · exact (pB_k h.2.2).trans (tkB_k ⟨h.1, h.2.1⟩)
      · exact tkB_k ⟨h.1, h.2.1⟩
  · exact tkB_k ⟨h.1, h.2.1⟩
theorem tks_ok {π : Nat → Nat} {s : Nat} {x : BE} (h : cOK x.1) : cOK (tks π s x).1 := by
  have h2 : cOK (tkB s x.1) := by
    obtain ⟨n, hn, hc⟩ := h
    exact ⟨n, hn, by rw [tkB_k (by omega)]; exact hc⟩
  unfold tks
  split
  · unfold tel
    split
    · exact su_ok π s _ _ _ _ h2
    · split
      · exact pB_ok h2
      · exact h2
  · exact h2
def b_drp (now : Int32) (B : Nat → Nat → Int32) (c : Nat) : Nat → Nat → Int32 := if B 15 c = -1 then B else if now ≤ B 16 c then B else u2 (u2 B 15 c (-1)) 16 c 0
theorem b_drp_k {now : Int32} {B : Nat → Nat → Int32} {c k i : Nat} (h : k ≠ 15 ∧ k ≠ 16) : b_drp now B c k i = B k i := by
  unfold b_drp
  split
  · rfl
  · split
    · rfl
    · rw [u2_k _ _ _ _ h.2, u2_k _ _ _ _ h.1]
theorem lp_drp_k {now : Int32} {k i : Nat} (h : k ≠ 15 ∧ k ≠ 16) : ∀ (t a : Nat) (B : Nat → Nat → Int32), lp (b_drp now) t a B k i = B k i := by
  intro t
  induction t with
  | zero => intro a B; rfl
  | succ t ih =>
    intro a B
    show lp (b_drp now) t (a + 1) (b_drp now B a) k i = B k i
    rw [ih, b_drp_k h]
def ts2 (π : Nat → Nat) (x : BE) (s : Nat) : BE := if x.1 2 s = 0 then x else tks π s x
theorem ts2_k {π : Nat → Nat} {s k i : Nat} {x : BE} (h : (k < 7 ∨ 14 < k) ∧ k ≠ 2 ∧ k ≠ 20) : (ts2 π x s).1 k i = x.1 k i := by
  unfold ts2
  split
  · rfl
  · exact tks_k h
theorem ts2_ok {π : Nat → Nat} {s : Nat} {x : BE} (h : cOK x.1) : cOK (ts2 π x s).1 := by
  unfold ts2
  split
  · exact h
  · exact tks_ok h
theorem lt5 {i : Nat} (h : i < 5) : ((5 : Int32) ≤ nI i) = False := nle_nI (a := 5) h (by decide)
theorem le5 : ((5 : Int32) ≤ nI 5) = True := le_nI (a := 5) (Nat.le_refl 5) (by decide)
theorem lt2 {i : Nat} (h : i < 2) : ((2 : Int32) ≤ nI i) = False := nle_nI (a := 2) h (by decide)
theorem le2 : ((2 : Int32) ≤ nI 2) = True := le_nI (a := 2) (Nat.le_refl 2) (by decide)
set_option maxHeartbeats 400000 in
set_option maxRecDepth 20000 in
theorem i1a (hA : ∀ i, ix (ad i) = i) {i : Nat} (hi : i < 5) : pz_R dA (d + 2) 1 25 [.ref (ad 0), .int (nI i)] [] (pz_wf ad ix (cw dA ad B E π τ D)) Q = (pz_R dA (d + 2) 1 25 [.ref (ad 0), .int (nI (i + 1))] [] (pz_wf ad ix (cw dA ad (b_drp (B 0 0) B i) E π τ D)) Q) := by
  rw [q1_25]
  simp only [pz_o_s, wf_gf hA, wf_gu hA, wf_pf hA, wf_il hA, wf_is hA, wf_rl hA, wf_rs hA, Option.map_some, Option.toList_some, Option.toList_none, List.cons_append, List.nil_append, List.length_cons, List.length_nil, Nat.reduceAdd, Nat.reduceLeDiff, Nat.zero_le, u2_e, Nat.reduceEqDiff, false_and, and_false, true_and, and_true, if_false, if_true, i10, i01, q1_0, q1_1, q1_2, q1_5, q1_6, q1_7, q1_10, q1_11, q1_14, q1_15, q1_18, q1_19, q1_20, q1_23, q1_24, q1_26, q1_27, q1_30, q1_31, q1_34, q1_35, q1_36, q1_37, q1_40, q1_43, q1_46, q1_49, q1_50, q1_51, q1_52, q1_53, q1_56, q1_57, q1_60, q1_61, q1_62, q1_65, q1_68, q1_69, q1_70, q1_73, q1_74, q1_75, q1_78, q1_81, q1_84, q1_85, q1_88, gu_P, gf_P0, gf_P1, gf_P2, gf_P3, gf_P4, pf_P0, pf_P1, lt5 hi, rl_2 hi, nI_1, gu_C hi, m67 hA hi]
  by_cases h1 : B 15 i = -1 <;> by_cases h2 : B 0 0 ≤ B 16 i <;> simp [b_drp, h1, h2]
set_option maxHeartbeats 400000 in
set_option maxRecDepth 20000 in
theorem x1a (hA : ∀ i, ix (ad i) = i) : pz_R dA d 1 25 [.ref (ad 0), .int (nI 5)] [] (pz_wf ad ix (cw dA ad B E π τ D)) Q = pz_R dA d 1 51 [.ref (ad 0), .int 0] [] (pz_wf ad ix (cw dA ad B E π τ D)) Q := by
  rw [q1_25]
  simp only [pz_o_s, wf_gf hA, wf_gu hA, wf_pf hA, wf_il hA, wf_is hA, wf_rl hA, wf_rs hA, Option.map_some, Option.toList_some, Option.toList_none, List.cons_append, List.nil_append, List.length_cons, List.length_nil, Nat.reduceAdd, Nat.reduceLeDiff, Nat.zero_le, u2_e, Nat.reduceEqDiff, false_and, and_false, true_and, and_true, if_false, if_true, i10, i01, q1_0, q1_1, q1_2, q1_5, q1_6, q1_7, q1_10, q1_11, q1_14, q1_15, q1_18, q1_19, q1_20, q1_23, q1_24, q1_26, q1_27, q1_30, q1_31, q1_34, q1_35, q1_36, q1_37, q1_40, q1_43, q1_46, q1_49, q1_50, q1_52, q1_53, q1_56, q1_57, q1_60, q1_61, q1_62, q1_65, q1_68, q1_69, q1_70, q1_73, q1_74, q1_75, q1_78, q1_81, q1_84, q1_85, q1_88, le5]
theorem l1a (hA : ∀ i, ix (ad i) = i) {now : Int32} : ∀ (t i : Nat) (B : Nat → Nat → Int32), i + t = 5 → B 0 0 = now → pz_R dA (d + 2) 1 25 [.ref (ad 0), .int (nI i)] [] (pz_wf ad ix (cw dA ad B E π τ D)) Q = pz_R dA (d + 2) 1 51 [.ref (ad 0), .int 0] [] (pz_wf ad ix (cw dA ad (lp (b_drp now) t i B) E π τ D)) Q := by
  intro t
  induction t with
  | zero =>
    intro i B h hb
    have h : i = 5 := h
    subst h
    exact x1a hA
  | succ t ih =>
    intro i B h hb
    rw [i1a hA (by omega), hb, ih (i + 1) _ (by omega) (by rw [b_drp_k (by decide)]; exact hb)]
    rfl
set_option maxHeartbeats 400000 in
set_option maxRecDepth 20000 in
theorem i1b (hA : ∀ i, ix (ad i) = i) {s : Nat} (hs : s < 2) (hp : ∀ j, π j < 25) (hk : cOK B) : pz_R dA (d + 5) 1 51 [.ref (ad 0), .int (nI s)] [] (pz_wf ad ix (cw dA ad B E π τ D)) Q = pz_R dA (d + 5) 1 51 [.ref (ad 0), .int (nI (s + 1))] [] (pz_wf ad ix (cw dA ad (ts2 π (B, E) s).1 (ts2 π (B, E) s).2 π τ D)) Q := by
  rw [q1_51]
  simp only [pz_o_s, wf_gf hA, wf_gu hA, wf_pf hA, wf_il hA, wf_is hA, wf_rl hA, wf_rs hA, Option.map_some, Option.toList_some, Option.toList_none, List.cons_append, List.nil_append, List.length_cons, List.length_nil, Nat.reduceAdd, Nat.reduceLeDiff, Nat.zero_le, u2_e, Nat.reduceEqDiff, false_and, and_false, true_and, and_true, if_false, if_true, i10, i01, q1_0, q1_1, q1_2, q1_5, q1_6, q1_7, q1_10, q1_11, q1_14, q1_15, q1_18, q1_19, q1_20, q1_23, q1_24, q1_25, q1_26, q1_27, q1_30, q1_31, q1_34, q1_35, q1_36, q1_37, q1_40, q1_43, q1_46, q1_49, q1_50, q1_52, q1_53, q1_56, q1_57, q1_60, q1_61, q1_62, q1_65, q1_68, q1_69, q1_70, q1_73, q1_74, q1_75, q1_78, q1_81, q1_84, q1_85, q1_88, gu_P, gf_P0, gf_P1, gf_P2, gf_P3, gf_P4, pf_P0, pf_P1, gu_S hs, gf_S0 hs, gf_S1 hs, gf_S2 hs, gf_S3 hs, gf_S4 hs, gf_S5 hs, gf_S6 hs, pf_S2 hs, pf_S3 hs, pf_S4 hs, pf_S5 hs, pf_S6 hs, lt2 hs, rl_1 hs, nI_1, m20 hA hs hp hk]
  by_cases h1 : B 2 s = 0 <;> simp [ts2, h1]
set_option maxHeartbeats 400000 in
set_option maxRecDepth 20000 in
theorem x1b (hA : ∀ i, ix (ad i) = i) : pz_R dA d 1 51 [.ref (ad 0), .int (nI 2)] [] (pz_wf ad ix (cw dA ad B E π τ D)) Q = Q (some (.int (B 0 0))) (pz_wf ad ix (cw dA ad B E π τ D)) := by
  rw [q1_51]
  simp only [pz_o_s, wf_gf hA, wf_gu hA, wf_pf hA, wf_il hA, wf_is hA, wf_rl hA, wf_rs hA, Option.map_some, Option.toList_some, Option.toList_none, List.cons_append, List.nil_append, List.length_cons, List.length_nil, Nat.reduceAdd, Nat.reduceLeDiff, Nat.zero_le, u2_e, Nat.reduceEqDiff, false_and, and_false, true_and, and_true, if_false, if_true, i10, i01, q1_0, q1_1, q1_2, q1_5, q1_6, q1_7, q1_10, q1_11, q1_14, q1_15, q1_18, q1_19, q1_20, q1_23, q1_24, q1_25, q1_26, q1_27, q1_30, q1_31, q1_34, q1_35, q1_36, q1_37, q1_40, q1_43, q1_46, q1_49, q1_50, q1_52, q1_53, q1_56, q1_57, q1_60, q1_61, q1_62, q1_65, q1_68, q1_69, q1_70, q1_73, q1_74, q1_75, q1_78, q1_81, q1_84, q1_85, q1_88, gu_P, gf_P0, gf_P1, gf_P2, gf_P3, gf_P4, pf_P0, pf_P1, le2]
/-- what a tick makes of the messages' marks, of their places, of the rest -/
def tkM (π : Nat → Nat) (n : Nat) (B E : Nat → Nat → Int32) : Nat → Nat → Int32 := mrk π (fun E m => bi (E m 3 < B 0 0 + 1 - 3)) n 0 E
def tkR (π : Nat → Nat) (n : Nat) (B E : Nat → Nat → Int32) : (Nat → Nat) × Nat := rmv (tkM π n B E) n 0 0 π
def tk1 (π : Nat → Nat) (n : Nat) (B E : Nat → Nat → Int32) : Nat → Nat → Int32 := lp (b_drp (B 0 0 + 1)) 5 0 (u2 (u2 B 0 0 (B 0 0 + 1)) 20 0 (nI (tkR π n B E).2))
def tk2 (π : Nat → Nat) (n : Nat) (B E : Nat → Nat → Int32) : BE := ts2 (tkR π n B E).1 (ts2 (tkR π n B E).1 (tk1 π n B E, tkM π n B E) 0) 1
set_option maxHeartbeats 400000 in
set_option maxRecDepth 20000 in
theorem m1 (hA : ∀ i, ix (ad i) = i) {n : Nat} (hn : n ≤ 24) (hc : B 20 0 = nI n) (hp : ∀ j, π j < 25) (hp2 : ∀ j, (tkR π n B E).1 j < 25) (hk2 : (tkR π n B E).2 ≤ 24) : pz_C dA (d + 5) 1 [.ref (ad 0)] (pz_wf ad ix (cw dA ad B E π τ D)) Q = Q (some (.int (B 0 0 + 1))) (pz_wf ad ix (cw dA ad (tk2 π n B E).1 (tk2 π n B E).2 (tkR π n B E).1 τ D)) := by
  have hE : mrk π (fun E m => bi (E m 3 < B 0 0 + 1 - 3)) n 0 E = tkM π n B E := rfl
  have hR : rmv (tkM π n B E) n 0 0 π = tkR π n B E := rfl
  have h9 : lp (b_drp (B 0 0 + 1)) 5 0 (u2 (u2 B 0 0 (B 0 0 + 1)) 20 0 (nI (tkR π n B E).2)) = tk1 π n B E := rfl
  have h8 : ts2 (tkR π n B E).1 (ts2 (tkR π n B E).1 (tk1 π n B E, tkM π n B E) 0) 1 = tk2 π n B E := rfl
  have h0 : cOK (tk1 π n B E) := ⟨_, hk2, by
    unfold tk1
    rw [lp_drp_k (by decide), u2_s]⟩
  have h3 : tk1 π n B E 0 0 = B 0 0 + 1 := by
    unfold tk1
    rw [lp_drp_k (by decide), u2_k _ _ _ _ (by decide), u2_s]
  generalize hM1 : tkM π n B E = M1 at *
  generalize hR1 : tkR π n B E = R1 at *
  generalize hB1 : tk1 π n B E = B1 at *
  have h4 : (ts2 R1.1 (ts2 R1.1 (B1, M1) 0) 1).1 0 0 = B 0 0 + 1 := by
    rw [ts2_k (by decide), ts2_k (by decide)]
    exact h3
  rw [h8] at h4
  generalize tk2 π n B E = B2 at *
  rw [e1]
  simp only [pz_o_s, wf_gf hA, wf_gu hA, wf_pf hA, wf_il hA, wf_is hA, wf_rl hA, wf_rs hA, Option.map_some, Option.toList_some, Option.toList_none, List.cons_append, List.nil_append, List.length_cons, List.length_nil, Nat.reduceAdd, Nat.reduceLeDiff, Nat.zero_le, u2_e, Nat.reduceEqDiff, false_and, and_false, true_and, and_true, if_false, if_true, i10, i01, q1_0, q1_1, q1_2, q1_5, q1_6, q1_7, q1_10, q1_11, q1_14, q1_15, q1_18, q1_19, q1_20, q1_23, q1_24, q1_26, q1_27, q1_30, q1_31, q1_34, q1_35, q1_36, q1_37, q1_40, q1_43, q1_46, q1_49, q1_50, q1_52, q1_53, q1_56, q1_57, q1_60, q1_61, q1_62, q1_65, q1_68, q1_69, q1_70, q1_73, q1_74, q1_75, q1_78, q1_81, q1_84, q1_85, q1_88, gu_P, gf_P0, gf_P1, gf_P2, gf_P3, gf_P4, pf_P0, pf_P1, gu_L, m76 hA hn (show u2 B 0 0 (B 0 0 + 1) 20 0 = nI n by rw [u2_k _ _ _ _ (by decide)]; exact hc) hp, hE, hR]
  have h1 := l1a (dA := dA) (ad := ad) (ix := ix) (E := M1) (π := R1.1) (D := D) (τ := τ) (Q := Q) (d := d + 3) hA (now := B 0 0 + 1) 5 0 (u2 (u2 B 0 0 (B 0 0 + 1)) 20 0 (nI R1.2)) (by omega) (by rw [u2_k _ _ _ _ (by decide), u2_s])
  rw [nI_0, h9] at h1
  rw [h1]
  have h2 := i1b (dA := dA) (ad := ad) (ix := ix) (B := B1) (E := M1) (π := R1.1) (D := D) (τ := τ) (Q := Q) (d := d) hA (s := 0) (by decide) hp2 h0
  rw [nI_0] at h2
  rw [h2, i1b (dA := dA) (ad := ad) (ix := ix) (π := R1.1) (D := D) (τ := τ) (Q := Q) (d := d) hA (s := 1) (by decide) hp2 (ts2_ok h0), x1b hA]
  have e9 : ∀ x : BE, (x.1, x.2) = x := fun _ => rfl
  simp only [e9, h8, h4]
end TM
