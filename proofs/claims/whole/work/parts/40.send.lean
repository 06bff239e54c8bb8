/-! steps that send: ask, release -/
theorem bgn_23 {D : Nat → Nat → Int32} {w f t x y : Int32} {j : Nat} (hj : j < 12) : bgn D w f t x y 23 j = if j = 5 then D 0 0 else if j = 4 then y else if j = 3 then x else if j = 2 then t else if j = 1 then f else if j = 0 then w else 0 := by
  unfold bgn
  simp only [u2_e, true_and, lp_zr]
  by_cases h : j = 5
  · simp [h]
  · by_cases h4 : j = 4
    · simp [h4]
    · by_cases h3 : j = 3
      · simp [h3]
      · by_cases h2 : j = 2
        · simp [h2]
        · by_cases h1 : j = 1
          · simp [h1]
          · by_cases h0 : j = 0
            · simp [h0]
            · simp [h, h4, h3, h2, h1, h0, hj]
theorem nx_e (D : Nat → Nat → Int32) {j : Nat} (hj : j < 12) : nxt D j = D 23 j := if_pos hj
theorem es_ext {E E' : Nat → Nat → Int32} {π : Nat → Nat} {n : Nat} (h : ∀ k, k < n → E' (π k) = E (π k)) : es E' π n = es E π n := by
  unfold es
  apply List.map_congr_left
  intro k hk
  exact h k (List.mem_range.mp hk)
theorem sub_neg4 (t : Nat) : nI t - -4 = nI (t + 4) := by
  have h : nI t - -4 = nI t + 4 := by
    rw [Int32.sub_eq_add_neg, Int32.neg_neg]
  rw [h]
  exact nI_add t 4
theorem sub_neg9 (t : Nat) : nI t - -9 = nI (t + 9) := by
  have h : nI t - -9 = nI t + 9 := by
    rw [Int32.sub_eq_add_neg, Int32.neg_neg]
  rw [h]
  exact nI_add t 9
theorem pause_ok {t : Nat} (ht : t < 1000) {e d : Int32} (h : e = d ∨ (e = -4 ∧ d = -9)) : (4 ≤ nI t - e) = (4 ≤ nI t - d) := by
  rcases h with h | ⟨h1, h2⟩
  · rw [h]
  · rw [h1, h2, sub_neg4, sub_neg9]
    have a : (4 : Int32) ≤ nI (t + 4) := nI_le (a := 4) (by omega) (by omega)
    have b : (4 : Int32) ≤ nI (t + 9) := nI_le (a := 4) (by omega) (by omega)
    simp only [a, b]
section STEPS2
variable {dA ad ix : Nat → Nat} {E D : Nat → Nat → Int32} {π : Nat → Nat} {τ t : Nat}
theorem st_ask (hA : ∀ i, ix (ad i) = i) (ht : t < 1000) (hG : GR t E π τ D) (x y : Int32) : stepOK dA ad ix t E π τ D 2 118 [.int x, .int y] := by
  obtain ⟨h1, h2, ⟨n, hn, hc, hf⟩, h4⟩ := id hG
  rcases cs5 x with h | ⟨c, hcl, rfl⟩
  · exact step_id hG 0 (fun Q => m2n hA (Or.inl h)) (fun Q => m118n hA (Or.inl h))
  · have g1 : ¬ nI c < 0 := nneg (by omega)
    have g2 : ¬ (5 : Int32) ≤ nI c := by rw [lt5 hcl]; exact id
    rcases cs2 y with h | ⟨s, hs, rfl⟩
    · exact step_id hG 0 (fun Q => m2n hA (Or.inr ⟨g1, g2, h⟩)) (fun Q => m118n hA (Or.inr ⟨g1, g2, h⟩))
    · have hp : (4 ≤ D 0 0 - E 25 c) = (4 ≤ D 0 0 - D 19 c) := by
        rw [h1.1]
        exact pause_ok ht (h4 c hcl)
      by_cases a : 4 ≤ D 0 0 - E 25 c
      · have a2 : 4 ≤ D 0 0 - D 19 c := by rw [← hp]; exact a
        have hb : ∀ k i, k ≠ 17 → k ≠ 18 → b_ask D c k i = D k i := fun k i k1 k2 => by
          unfold b_ask
          rw [u2_k _ _ _ _ k2, u2_k _ _ _ _ k1]
        have hml : mls (b_ask D c) n = mls D n := mls_ext (fun q _ => hb 21 q (by decide) (by decide))
        obtain ⟨s1, s2, s3⟩ := send_ok (t := t) (B := b_ask D c) (E := E) (D := b_ask D c) (D' := bgn (b_ask D c) 0 (nI c) (nI s) (D 17 c + 1) 0) (l := [(0, 0), (1, nI c), (2, nI s), (3, D 0 0), (4, D 17 c + 1)]) h2 hn (by rw [hb _ _ (by decide) (by decide)]; exact hc) (fun k i hk => bgn_k hk) (Sh.rf _) (by rw [hml]; exact hf) (by
          unfold mR
          simp only [nx_e _ (show 0 < 12 by decide), nx_e _ (show 1 < 12 by decide), nx_e _ (show 2 < 12 by decide), nx_e _ (show 3 < 12 by decide), nx_e _ (show 4 < 12 by decide), nx_e _ (show 5 < 12 by decide), bgn_23 (show 0 < 12 by decide), bgn_23 (show 1 < 12 by decide), bgn_23 (show 2 < 12 by decide), bgn_23 (show 3 < 12 by decide), bgn_23 (show 4 < 12 by decide), bgn_23 (show 5 < 12 by decide), hb 0 0 (by decide) (by decide)]
          refine ⟨⟨by simp [stm, u2_e], by simp [stm, u2_e], by simp [stm, u2_e], by simp [stm, u2_e]⟩, ⟨t, Nat.le_refl t, by simp [h1.1]⟩, Or.inl ⟨by simp, ⟨s, hs, by simp⟩, ⟨c, hcl, by simp⟩, by simp [stm, u2_e], by simp⟩⟩)
        refine ⟨1, _, _, π, τ, akC D c s, t, Nat.le_succ t, fun Q => by rw [m2 hA hn h2.1 hcl hs hc, if_pos a], fun Q => by rw [m118 hA hn hcl hs hc, if_pos a2], s1, ?_, h2, s2, ?_⟩
        · refine h1.ext (fun k i hk => ?_)
          unfold akC
          rw [pX_k (by omega), bgn_k (by omega)]
          exact hb k i (by omega) (by omega)
        · intro j hj
          rw [s3]
          unfold akC
          rw [pX_k (by decide), bgn_k (by decide), hb _ _ (by decide) (by decide)]
          exact h4 j hj
      · have a2 : ¬ 4 ≤ D 0 0 - D 19 c := by rw [← hp]; exact a
        exact step_id hG 0 (fun Q => by rw [m2 hA hn h2.1 hcl hs hc, if_neg a]) (fun Q => by rw [m118 hA hn hcl hs hc, if_neg a2])
theorem Sh.rel {B D : Nat → Nat → Int32} (h : Sh B D) (c : Nat) : Sh (b_rel B c) (b_rel D c) := ((h.u2 _ _ _).u2 _ _ _).u2 _ _ _
theorem st_release (hA : ∀ i, ix (ad i) = i) (hG : GR t E π τ D) (x y : Int32) : stepOK dA ad ix t E π τ D 3 119 [.int x, .int y] := by
  obtain ⟨h1, h2, ⟨n, hn, hc, hf⟩, h4⟩ := id hG
  rcases cs5 x with h | ⟨c, hcl, rfl⟩
  · exact step_id hG 0 (fun Q => m3n hA (Or.inl h)) (fun Q => m119n hA (Or.inl h))
  · have g1 : ¬ nI c < 0 := nneg (by omega)
    have g2 : ¬ (5 : Int32) ≤ nI c := by rw [lt5 hcl]; exact id
    rcases cs2 y with h | ⟨s, hs, rfl⟩
    · exact step_id hG 0 (fun Q => m3n hA (Or.inr ⟨g1, g2, h⟩)) (fun Q => m119n hA (Or.inr ⟨g1, g2, h⟩))
    · rcases h1.2.2.1 c hcl with a | ⟨j, hj, a⟩
      · have a2 : ¬ 0 ≤ D 15 c := by rw [a]; decide
        exact step_id hG 0 (fun Q => by rw [m3 hA hn h2.1 hcl hs hc, if_pos a]) (fun Q => by rw [m119 hA hn hcl hs hc, if_neg a2])
      · have a1 : ¬ D 15 c = -1 := by rw [a, nm1 (by omega)]; exact id
        have a2 : 0 ≤ D 15 c := by rw [a]; exact nI_pos' (by omega)
        obtain ⟨s1, ⟨n', n1, n2, n3⟩, s3⟩ := send_ok (t := t) (B := D) (E := E) (D := D) (D' := bgn D 3 (nI c) (nI s) (D 15 c) 0) (l := [(0, 3), (1, nI c), (2, nI s), (3, D 0 0), (5, D 15 c)]) h2 hn hc (fun k i hk => bgn_k hk) (Sh.rf _) hf (by
          unfold mR
          simp only [nx_e _ (show 0 < 12 by decide), nx_e _ (show 1 < 12 by decide), nx_e _ (show 2 < 12 by decide), nx_e _ (show 3 < 12 by decide), nx_e _ (show 4 < 12 by decide), nx_e _ (show 5 < 12 by decide), bgn_23 (show 0 < 12 by decide), bgn_23 (show 1 < 12 by decide), bgn_23 (show 2 < 12 by decide), bgn_23 (show 3 < 12 by decide), bgn_23 (show 4 < 12 by decide), bgn_23 (show 5 < 12 by decide)]
          refine ⟨⟨by simp [stm, u2_e], by simp [stm, u2_e], by simp [stm, u2_e], by simp [stm, u2_e]⟩, ⟨t, Nat.le_refl t, by simp [h1.1]⟩, Or.inr (Or.inr (Or.inr (Or.inl ⟨by simp, ⟨s, hs, by simp⟩, by simp [stm, u2_e], ⟨j, hj, by simp [a]⟩, by simp⟩)))⟩)
        have hx : ∀ k i, k ≠ 15 → k ≠ 16 → k ≠ 18 → k ≠ 19 → rlC D c s k i = pX (bgn D 3 (nI c) (nI s) (D 15 c) 0) k i := fun k i k1 k2 k3 k4 => by
          unfold rlC b_rel
          rw [u2_k _ _ _ _ k4, u2_k _ _ _ _ k3, u2_k _ _ _ _ k2, u2_k _ _ _ _ k1]
        have hy : ∀ k i, k ≠ 15 → k ≠ 16 → k ≠ 18 → k ≠ 19 → k ≠ 20 → k ≠ 21 → k ≠ 23 → rlC D c s k i = D k i := fun k i k1 k2 k3 k4 k5 k6 k7 => by
          rw [hx k i k1 k2 k3 k4, pX_k ⟨k5, k6⟩, bgn_k k7]
        refine ⟨1, _, _, π, τ, rlC D c s, t, Nat.le_succ t, fun Q => by rw [m3 hA hn h2.1 hcl hs hc, if_neg a1], fun Q => by rw [m119 hA hn hcl hs hc, if_pos a2], ?_, ?_, h2, ⟨n', n1, ?_, ?_⟩, ?_⟩
        · exact (s1.rel c).of (fun k i hk => by unfold rlC; exact u2_k _ _ _ _ (by omega))
        · have hz : sI t (pX (bgn D 3 (nI c) (nI s) (D 15 c) 0)) := h1.ext (fun k i hk => by rw [pX_k (by omega), bgn_k (by omega)])
          exact (((hz.u2 (okv_15 (Or.inl rfl))).u2 (okv_o (by decide))).u2 (okv_o (by decide))).u2 (okv_o (by decide))
        · rw [hx] <;> first | exact n2 | decide
        · rw [mls_ext (fun q _ => hx 21 q (by decide) (by decide) (by decide) (by decide)), es_ext (E := pE D E π [(0, 3), (1, nI c), (2, nI s), (3, D 0 0), (5, D 15 c)]) (fun k _ => by
            funext j
            exact u2_k _ _ _ _ (by have := h2.1 k; omega))]
          exact n3
        · intro q hq
          unfold rlC
          rw [u2_e, u2_e]
          by_cases z : q = c
          · exact Or.inl (by rw [if_pos ⟨rfl, z⟩, if_pos ⟨rfl, z⟩])
          · rw [if_neg (fun w => z w.2), if_neg (fun w => z w.2), s3]
            unfold b_rel
            rw [u2_k _ _ _ _ (by decide), u2_k _ _ _ _ (by decide), u2_k _ _ _ _ (by decide), pX_k (by decide), bgn_k (by decide)]
            exact h4 q hq
end STEPS2
