/-! calls on both sides: equal answers, the relation kept -/
def stepOK (dA ad ix : Nat → Nat) (t : Nat) (E : Nat → Nat → Int32) (π : Nat → Nat) (τ : Nat) (D : Nat → Nat → Int32) (kc km : Nat) (ac : List Value) : Prop :=
  ∃ (r : Int32) (B1 E1 : Nat → Nat → Int32) (π1 : Nat → Nat) (τ1 : Nat) (D1 : Nat → Nat → Int32) (t1 : Nat), t1 ≤ t + 1 ∧
    (∀ Q, pz_C dA 6 kc (.ref (ad 0) :: ac) (pz_wf ad ix (cw dA ad D E π τ D)) Q = Q (some (.int r)) (pz_wf ad ix (cw dA ad B1 E1 π1 τ1 D))) ∧
    (∀ Q, pz_C dA 6 km (.ref (ad 100) :: ac) (pz_wf ad ix (cw dA ad B1 E1 π1 τ1 D)) Q = Q (some (.int r)) (pz_wf ad ix (cw dA ad B1 E1 π1 τ1 D1))) ∧
    Sh B1 D1 ∧ GR t1 E1 π1 τ1 D1
theorem csN (x : Int32) {n : Nat} (hn : n < 2 ^ 31) : (x < 0 ∨ (¬ x < 0 ∧ nI n ≤ x)) ∨ ∃ j, j < n ∧ x = nI j := by
  rcases pk_ix x hn with h | h | h
  · exact Or.inl (Or.inl h)
  · by_cases h0 : x < 0
    · exact Or.inl (Or.inl h0)
    · exact Or.inl (Or.inr ⟨h0, h⟩)
  · exact Or.inr h
theorem cs2 (x : Int32) : (x < 0 ∨ (¬ x < 0 ∧ 2 ≤ x)) ∨ ∃ j, j < 2 ∧ x = nI j := csN x (n := 2) (by decide)
theorem cs5 (x : Int32) : (x < 0 ∨ (¬ x < 0 ∧ 5 ≤ x)) ∨ ∃ j, j < 5 ∧ x = nI j := csN x (n := 5) (by decide)
theorem cs6 (x : Int32) : (x < 0 ∨ (¬ x < 0 ∧ ¬ x < 6)) ∨ ∃ j, j < 6 ∧ x = nI j := by
  rcases csN x (n := 6) (by decide) with h | h
  · rcases h with h | ⟨h, h2⟩
    · exact Or.inl (Or.inl h)
    · exact Or.inl (Or.inr ⟨h, Int32.not_lt.mpr h2⟩)
  · exact Or.inr h
theorem nneg {n : Nat} (h : n < 2 ^ 31) : ¬ nI n < 0 := nI_pos h
section STEPS
variable {dA ad ix : Nat → Nat} {E D : Nat → Nat → Int32} {π : Nat → Nat} {τ t : Nat}
/-- a call that changes nothing -/
theorem step_id {kc km : Nat} {ac : List Value} (hG : GR t E π τ D) (r : Int32) (h1 : ∀ Q, pz_C dA 6 kc (.ref (ad 0) :: ac) (pz_wf ad ix (cw dA ad D E π τ D)) Q = Q (some (.int r)) (pz_wf ad ix (cw dA ad D E π τ D))) (h2 : ∀ Q, pz_C dA 6 km (.ref (ad 100) :: ac) (pz_wf ad ix (cw dA ad D E π τ D)) Q = Q (some (.int r)) (pz_wf ad ix (cw dA ad D E π τ D))) : stepOK dA ad ix t E π τ D kc km ac :=
  ⟨r, D, E, π, τ, D, t, Nat.le_succ t, h1, h2, Sh.rf D, hG⟩
/-- a call that changes the shared numbers alone -/
theorem step_sh {kc km : Nat} {ac : List Value} {D1 : Nat → Nat → Int32} (r : Int32) (h1 : ∀ Q, pz_C dA 6 kc (.ref (ad 0) :: ac) (pz_wf ad ix (cw dA ad D E π τ D)) Q = Q (some (.int r)) (pz_wf ad ix (cw dA ad D1 E π τ D))) (h2 : ∀ Q, pz_C dA 6 km (.ref (ad 100) :: ac) (pz_wf ad ix (cw dA ad D1 E π τ D)) Q = Q (some (.int r)) (pz_wf ad ix (cw dA ad D1 E π τ D1))) (hG : GR t E π τ D1) : stepOK dA ad ix t E π τ D kc km ac :=
  ⟨r, D1, E, π, τ, D1, t, Nat.le_succ t, h1, h2, Sh.rf D1, hG⟩
theorem GR.ext {D' : Nat → Nat → Int32} (hG : GR t E π τ D) (e : ∀ k i, (k = 0 ∨ k = 2 ∨ k = 6 ∨ k = 7 ∨ k = 14 ∨ k = 15 ∨ k = 19 ∨ k = 20 ∨ k = 21) → D' k i = D k i) : GR t E π τ D' := by
  obtain ⟨h1, h2, ⟨n, hn, hc, hf⟩, h4⟩ := hG
  refine ⟨h1.ext (fun k i hk => e k i (by omega)), h2, ⟨n, hn, by rw [e 20 0 (by omega)]; exact hc, ?_⟩, fun c hc => by rw [e 19 c (by omega)]; exact h4 c hc⟩
  rw [mls_ext (fun q _ => e 21 q (by omega))]
  exact hf
theorem st_state (hA : ∀ i, ix (ad i) = i) (hG : GR t E π τ D) (x : Int32) : stepOK dA ad ix t E π τ D 10 124 [.int x] := by
  rcases cs2 x with h | ⟨s, hs, rfl⟩
  · exact step_id hG (-1) (fun Q => m10n hA h) (fun Q => m124n hA h)
  · exact step_id hG (D 2 s) (fun Q => m10 hA hs) (fun Q => m124 hA hs)
theorem st_entry (hA : ∀ i, ix (ad i) = i) (hG : GR t E π τ D) (x y w : Int32) : stepOK dA ad ix t E π τ D 11 125 [.int x, .int y, .int w] := by
  rcases cs2 x with h | ⟨s, hs, rfl⟩
  · exact step_id hG (-2) (fun Q => m11n hA (Or.inl h)) (fun Q => m125n hA (Or.inl h))
  · rcases cs6 y with h | ⟨a, ha, rfl⟩
    · have g1 : ¬ nI s < 0 := nneg (by omega)
      have g2 : ¬ (2 : Int32) ≤ nI s := by rw [lt2 hs]; exact id
      exact step_id hG (-2) (fun Q => m11n hA (Or.inr ⟨g1, g2, h⟩)) (fun Q => m125n hA (Or.inr ⟨g1, g2, h⟩))
    · exact step_id hG (lkR D (6 * s + a) w) (fun Q => m11 hA hs ha) (fun Q => m125 hA hs ha)
theorem st_client (hA : ∀ i, ix (ad i) = i) (hG : GR t E π τ D) (x w : Int32) : stepOK dA ad ix t E π τ D 12 126 [.int x, .int w] := by
  rcases cs5 x with h | ⟨c, hc, rfl⟩
  · exact step_id hG (-2) (fun Q => m12n hA h) (fun Q => m126n hA h)
  · exact step_id hG (lkC D c w) (fun Q => m12 hA hc) (fun Q => m126 hA hc)
theorem st_messages (hA : ∀ i, ix (ad i) = i) (hG : GR t E π τ D) : stepOK dA ad ix t E π τ D 13 127 [] :=
  step_id hG (D 20 0) (fun Q => m13 hA) (fun Q => m127 hA)
theorem st_message (hA : ∀ i, ix (ad i) = i) (hG : GR t E π τ D) (x w : Int32) : stepOK dA ad ix t E π τ D 14 128 [.int x, .int w] := by
  obtain ⟨h1, h2, ⟨n, hn, hc, hf⟩, h4⟩ := id hG
  rcases csN x (n := n) (by omega) with h | ⟨k, hk, rfl⟩
  · rw [← hc] at h
    exact step_id hG (-2) (fun Q => m14n hA h) (fun Q => m128n hA h)
  · have hm := look_ok (fa2_get hf (es_get hk) (mls_get hk)) w
    refine step_id hG (lkM (E (π k)) w) (fun Q => m14 hA hk hn hc h2.1) (fun Q => ?_)
    rw [hm]
    exact m128 hA hk hn hc
theorem st_link (hA : ∀ i, ix (ad i) = i) (hG : GR t E π τ D) (x : Int32) (hx : x = 0 ∨ x = 1) : stepOK dA ad ix t E π τ D 9 123 [.int x] := by
  rcases hx with rfl | rfl
  · by_cases h : D 1 0 = 0
    · exact step_id hG 0 (fun Q => by rw [m9_0 hA, if_pos h]) (fun Q => by rw [m123_0 hA, if_pos h])
    · exact step_sh 1 (fun Q => by rw [m9_0 hA, if_neg h]) (fun Q => by rw [m123_0 hA, if_neg h]) (hG.ext (fun k i hk => u2_k _ _ _ _ (by omega)))
  · by_cases h : D 1 0 = 1
    · exact step_id hG 0 (fun Q => by rw [m9_1 hA, if_pos h]) (fun Q => by rw [m123_1 hA, if_pos h])
    · exact step_sh 1 (fun Q => by rw [m9_1 hA, if_neg h]) (fun Q => by rw [m123_1 hA, if_neg h]) (hG.ext (fun k i hk => u2_k _ _ _ _ (by omega)))
theorem st_start (hA : ∀ i, ix (ad i) = i) (hG : GR t E π τ D) (x : Int32) : stepOK dA ad ix t E π τ D 7 121 [.int x] := by
  rcases cs2 x with h | ⟨s, hs, rfl⟩
  · exact step_id hG 0 (fun Q => m7n hA h) (fun Q => m121n hA h)
  · by_cases a1 : D 2 s = 0
    · by_cases a2 : D 1 0 = 0
      · exact step_id hG 0 (fun Q => by rw [m7 hA hs, if_pos a1, if_pos a2]) (fun Q => by rw [m121 hA hs, if_pos a1, if_pos a2])
      · refine step_sh 1 (fun Q => by rw [m7 hA hs, if_pos a1, if_neg a2]) (fun Q => by rw [m121 hA hs, if_pos a1, if_neg a2]) ?_
        exact hG.of ((((hG.1.u2 (okv_2 (by simp))).u2 (okv_o (by decide))).u2 (okv_o (by decide))).u2 (okv_6 ⟨0, by decide, rfl⟩)) (fun k i hk => by rw [u2_k _ _ _ _ (by omega), u2_k _ _ _ _ (by omega), u2_k _ _ _ _ (by omega), u2_k _ _ _ _ (by omega)])
    · exact step_id hG 0 (fun Q => by rw [m7 hA hs, if_neg a1]) (fun Q => by rw [m121 hA hs, if_neg a1])
theorem st_alone (hA : ∀ i, ix (ad i) = i) (hG : GR t E π τ D) (x : Int32) : stepOK dA ad ix t E π τ D 8 122 [.int x] := by
  rcases cs2 x with h | ⟨s, hs, rfl⟩
  · exact step_id hG 0 (fun Q => m8n hA h) (fun Q => m122n hA h)
  · by_cases a1 : D 2 (1 - s) = 0
    · by_cases a2 : D 2 s = 1 ∨ D 2 s = 2
      · exact step_sh 1 (fun Q => by rw [m8 hA hs, if_pos a1, if_pos a2]) (fun Q => by rw [m122 hA hs, if_pos a1, if_pos a2]) (hG.of ((hG.1.u2 (okv_2 (by simp))).u2 (okv_o (by decide))) (fun k i hk => by rw [u2_k _ _ _ _ (by omega), u2_k _ _ _ _ (by omega)]))
      · exact step_id hG 0 (fun Q => by rw [m8 hA hs, if_pos a1, if_neg a2]) (fun Q => by rw [m122 hA hs, if_pos a1, if_neg a2])
    · exact step_id hG 0 (fun Q => by rw [m8 hA hs, if_neg a1]) (fun Q => by rw [m122 hA hs, if_neg a1])
theorem st_lose (hA : ∀ i, ix (ad i) = i) (hG : GR t E π τ D) (x : Int32) : stepOK dA ad ix t E π τ D 5 115 [.int x] := by
  obtain ⟨h1, h2, ⟨n, hn, hc, hf⟩, h4⟩ := id hG
  rcases csN x (n := n) (by omega) with h | ⟨k, hk, rfl⟩
  · rw [← hc] at h
    refine step_id hG 0 (fun Q => m5n hA h) (fun Q => m115n hA ?_)
    rcases h with h | ⟨h, h3⟩
    · exact Or.inl h
    · exact Or.inr ⟨h, Int32.not_lt.mpr h3⟩
  · obtain ⟨n, rfl⟩ : ∃ j, n = j + 1 := ⟨n - 1, by omega⟩
    refine ⟨1, _, E, _, _, oX D n k, t, Nat.le_succ t, fun Q => m5 hA hk hn hc h2.1 h2.2.1, fun Q => m115 hA hk hn hc, ?_, ?_⟩
    · intro j i hj
      unfold oX
      rw [u2_e, u2_e, lp_k (fun D a => u2_k _ _ _ _ (by omega))]
    · refine ⟨h1.ext (fun j i hj => oX_k (by omega)), h2.take hk hn, ⟨n, by omega, oX_20, ?_⟩, fun c hc => by rw [oX_k (by decide)]; exact h4 c hc⟩
      rw [es_pt hk, mls_oX hk]
      exact fa2_era k hf
end STEPS
