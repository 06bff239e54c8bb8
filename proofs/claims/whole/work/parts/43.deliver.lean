/-! deliver on both sides -/
theorem mR.extm {t : Nat} {e m m' : Nat → Int32} (h : mR t e m) (he : ∀ j, j < 12 → m' j = m j) : mR t e m' := by
  unfold mR at *
  rw [he 0 (by decide), he 1 (by decide), he 2 (by decide), he 3 (by decide), he 4 (by decide), he 5 (by decide), he 6 (by decide), he 7 (by decide), he 8 (by decide), he 9 (by decide), he 10 (by decide), he 11 (by decide)]
  exact h
/-! ask -/
theorem Sh.chs {B D : Nat → Nat → Int32} (h : Sh B D) (s : Nat) (w now : Int32) : chs B s w now = chs D s w now := by
  have e1 : c_lent B s w = c_lent D s w := by
    funext a
    unfold c_lent
    rw [h 7 _ (by omega), h 8 _ (by omega)]
  have e2 : ∀ fl, c_free B s fl = c_free D s fl := by
    intro fl
    funext a
    unfold c_free
    rw [h 7 _ (by omega)]
  have e3 : c_past B s now = c_past D s now := by
    funext a
    unfold c_past
    rw [h 9 _ (by omega), h 11 _ (by omega)]
  show _root_.Eq (ite _ _ _) (ite _ _ _)
  rw [e1, e2, e2, e3, h 2 s (by omega), h 3 s (by omega)]
theorem Sh.lnd {B D : Nat → Nat → Int32} (h : Sh B D) (r : Nat) (w now al : Int32) : Sh (b_lnd B r w now al) (b_lnd D r w now al) := by
  unfold b_lnd
  rw [h 7 r (by omega), h 8 r (by omega), h 9 r (by omega), h 10 r (by omega), h 12 r (by omega)]
  split
  · exact (((h.u2 _ _ _).u2 _ _ _).u2 _ _ _).chg r
  · exact (((((((h.u2 _ _ _).u2 _ _ _).u2 _ _ _).u2 _ _ _).u2 _ _ _).u2 _ _ _).u2 _ _ _).chg r
theorem sI.lnd {t : Nat} {D : Nat → Nat → Int32} (h : sI t D) (r : Nat) (w now al : Int32) : sI t (b_lnd D r w now al) := by
  unfold b_lnd
  split
  · exact (((h.u2 (okv_o (by decide))).u2 (okv_7 (Or.inr (Or.inl rfl)))).u2 (okv_o (by decide))).chg r
  · exact (((((((h.u2 (okv_o (by decide))).u2 (okv_o (by decide))).u2 (okv_o (by decide))).u2 (okv_o (by decide))).u2 (okv_o (by decide))).u2 (okv_7 (Or.inr (Or.inl rfl)))).u2 (okv_o (by decide))).chg r
theorem lnd_k {D : Nat → Nat → Int32} {r k i : Nat} {w now al : Int32} (h : k < 7 ∨ 14 < k) : b_lnd D r w now al k i = D k i := by
  unfold b_lnd b_chg
  split
  · rw [u2_k _ _ _ _ (by omega), u2_k _ _ _ _ (by omega), u2_k _ _ _ _ (by omega), u2_k _ _ _ _ (by omega), u2_k _ _ _ _ (by omega)]
  · rw [u2_k _ _ _ _ (by omega), u2_k _ _ _ _ (by omega), u2_k _ _ _ _ (by omega), u2_k _ _ _ _ (by omega), u2_k _ _ _ _ (by omega), u2_k _ _ _ _ (by omega), u2_k _ _ _ _ (by omega), u2_k _ _ _ _ (by omega), u2_k _ _ _ _ (by omega)]
section DLV
variable {t τ s : Nat} {π : Nat → Nat} {B E D : Nat → Nat → Int32} {e : Nat → Int32}
theorem JR.ask (h : JR t π τ (B, E) D) (hs : s < 2) {c : Nat} (hcl : c < 5) (e1 : e 1 = D 22 1) (e2 : e 2 = nI s) (c1 : D 22 1 = nI c) (e4 : e 4 = D 22 3) : JR t π τ (aAsk π s e (B, E)) (asX s D) := by
  have hS : Sh B D := h.1
  have h0 : D 0 0 = nI t := h.2.1.1
  unfold aAsk asX akA
  simp only [hS.sv s, e1, e2, e4, hS 0 0 (by omega), hS.chs, hS 2 s (by omega)]
  split
  · split
    · refine h.send (D' := bgn D 2 (nI s) (D 22 1) (D 22 3) 0) (fun k i hk => bgn_k hk) (fun m => ?_)
      refine ⟨⟨?_, ?_, ?_, ?_⟩, ⟨t, Nat.le_refl t, ?_⟩, Or.inr (Or.inr (Or.inl ⟨?_, ⟨c, hcl, ?_⟩, ?_, ?_⟩))⟩
      all_goals simp [nxt_bgn, stm, u2_e, h0, c1]
    · rename_i hne
      rcases chs_r D s (D 22 1) (D 0 0) with q | ⟨a, ha, q⟩
      · exact absurd q hne
      · rw [q, nI_clamp (by omega)]
        have hL : Sh (b_lnd B (6 * s + a) (D 22 1) (D 0 0) (bi (D 2 s = 3))) (b_lnd D (6 * s + a) (D 22 1) (D 0 0) (bi (D 2 s = 3))) := hS.lnd _ _ _ _
        rw [hL 9 _ (by omega)]
        have hJ : JR t π τ (b_lnd B (6 * s + a) (D 22 1) (D 0 0) (bi (D 2 s = 3)), E) (b_lnd D (6 * s + a) (D 22 1) (D 0 0) (bi (D 2 s = 3))) := JR.mk hL (h.2.of (h.2.1.lnd _ _ _ _) (fun k i hk => lnd_k (by omega)))
        have h00 : b_lnd D (6 * s + a) (D 22 1) (D 0 0) (bi (D 2 s = 3)) 0 0 = nI t := by rw [lnd_k (by decide), h0]
        generalize b_lnd D (6 * s + a) (D 22 1) (D 0 0) (bi (D 2 s = 3)) = D2 at hJ h00 ⊢
        generalize b_lnd B (6 * s + a) (D 22 1) (D 0 0) (bi (D 2 s = 3)) = B2 at hJ ⊢
        refine hJ.send (D' := u2 (bgn D2 1 (nI s) (D 22 1) (D 22 3) (nI a)) 23 7 (D2 9 (6 * s + a))) (fun k i hk => by rw [u2_k _ _ _ _ hk, bgn_k hk]) (fun m => ?_)
        refine ⟨⟨?_, ?_, ?_, ?_⟩, ⟨t, Nat.le_refl t, ?_⟩, Or.inr (Or.inl ⟨?_, ⟨c, hcl, ?_⟩, ?_, ?_, ⟨a, ha, ?_⟩, ?_⟩)⟩
        all_goals simp [nxt_u2, nxt_bgn, stm, u2_e, h0, h00, c1]
  · exact h
theorem JR.lea (h : JR t π τ (B, E) D) {c : Nat} (hcl : c < 5) (e4 : e 4 = D 22 3) (e5 : e 5 = D 22 4) {a : Nat} (ha : a < 6) (c4 : D 22 4 = nI a) (e8 : e 8 = D 22 7) : JR t π τ (aLea c e B, E) (leX c D) := by
  have hS : Sh B D := h.1
  have hE : (D 22 3 = D 17 c) = (D 17 c = D 22 3) := propext eq_comm
  unfold aLea leX
  simp only [hS 18 c (by omega), hS 17 c (by omega), hS 0 0 (by omega), e4, e5, e8, hE]
  split
  · exact h
  · split
    · split
      · exact JR.mk (hS.u2 _ _ _) (h.2.of (h.2.1.u2 (okv_o (by decide))) (fun k i hk => by rw [u2_k _ _ _ _ (by omega)]))
      · exact JR.mk (((hS.u2 _ _ _).u2 _ _ _).u2 _ _ _) (h.2.of (((h.2.1.u2 (okv_o (by decide))).u2 (okv_15 (Or.inr ⟨a, ha, c4⟩))).u2 (okv_o (by decide))) (fun k i hk => by rw [u2_k _ _ _ _ (by omega), u2_k _ _ _ _ (by omega), u2_k _ _ _ _ (by omega)]))
    · exact h
theorem JR.den (h : JR t π τ (B, E) D) {c : Nat} (hcl : c < 5) (e4 : e 4 = D 22 3) : JR t π τ (aDen c e B, E) (deX c D) := by
  have hS : Sh B D := h.1
  have hE : (D 22 3 = D 17 c) = (D 17 c = D 22 3) := propext eq_comm
  unfold aDen deX
  simp only [hS 18 c (by omega), hS 17 c (by omega), e4, hE]
  split
  · exact h
  · split
    · exact JR.mk (hS.u2 _ _ _) (h.2.of (h.2.1.u2 (okv_o (by decide))) (fun k i hk => by rw [u2_k _ _ _ _ (by omega)]))
    · exact h
theorem JR.rel (h : JR t π τ (B, E) D) {a : Nat} (e1 : e 1 = D 22 1) : JR t π τ (aRel s a e B, E) (reX s a D) := by
  have hS : Sh B D := h.1
  unfold aRel reX
  simp only [hS.sv s, hS 7 _ (by omega), hS 8 _ (by omega), e1]
  split
  · exact JR.mk (hS.end _) (h.2.of (h.2.1.end _) (fun k i hk => b_end_k (by omega)))
  · exact h
theorem Sh.clr {B D : Nat → Nat → Int32} (h : Sh B D) (r : Nat) : Sh (b_clr B r) (b_clr D r) := ((((h.u2 _ _ _).u2 _ _ _).u2 _ _ _).u2 _ _ _).u2 _ _ _
theorem sI.clr {D : Nat → Nat → Int32} (h : sI t D) (r : Nat) : sI t (b_clr D r) := ((((h.u2 (okv_7 (Or.inl rfl))).u2 (okv_o (by decide))).u2 (okv_o (by decide))).u2 (okv_o (by decide))).u2 (okv_o (by decide))
theorem clr_k {D : Nat → Nat → Int32} {r k i : Nat} (h : k < 7 ∨ 14 < k) : b_clr D r k i = D k i := by
  unfold b_clr
  rw [u2_k _ _ _ _ (by omega), u2_k _ _ _ _ (by omega), u2_k _ _ _ _ (by omega), u2_k _ _ _ _ (by omega), u2_k _ _ _ _ (by omega)]
theorem Sh.ack {B D : Nat → Nat → Int32} (h : Sh B D) (r : Nat) (g n po : Int32) : Sh (b_ack B r g n po) (b_ack D r g n po) := by
  unfold b_ack
  rw [h 14 r (by omega), h 12 r (by omega), h 13 r (by omega), h 7 r (by omega), h 10 r (by omega)]
  split
  · exact h
  · split
    · split
      · exact (h.u2 _ _ _).u2 _ _ _
      · split
        · exact (h.u2 _ _ _).clr r
        · exact h.u2 _ _ _
    · exact h
theorem sI.ack {D : Nat → Nat → Int32} (h : sI t D) (r : Nat) (g n po : Int32) : sI t (b_ack D r g n po) := by
  unfold b_ack
  split
  · exact h
  · split
    · split
      · exact (h.u2 (okv_14 (Or.inl rfl))).u2 (okv_o (by decide))
      · split
        · exact (h.u2 (okv_14 (Or.inl rfl))).clr r
        · exact h.u2 (okv_14 (Or.inl rfl))
    · exact h
theorem ack_k {D : Nat → Nat → Int32} {r k i : Nat} {g n po : Int32} (h : k < 7 ∨ 14 < k) : b_ack D r g n po k i = D k i := by
  unfold b_ack
  split
  · rfl
  · split
    · split
      · rw [u2_k _ _ _ _ (by omega), u2_k _ _ _ _ (by omega)]
      · split
        · rw [clr_k h, u2_k _ _ _ _ (by omega)]
        · rw [u2_k _ _ _ _ (by omega)]
    · rfl
theorem JR.ack (h : JR t π τ (B, E) D) {a : Nat} (e9 : e 9 = D 22 8) (e10 : e 10 = D 22 9) (e11 : e 11 = D 22 10) : JR t π τ (aAck s a e B, E) (acX s a D) := by
  have hS : Sh B D := h.1
  unfold aAck acX
  simp only [hS.sv s, e9, e10, e11]
  split
  · exact JR.mk (hS.ack _ _ _ _) (h.2.of (h.2.1.ack _ _ _ _) (fun k i hk => ack_k (by omega)))
  · exact h
/-! demand -/
theorem drt_JR {x : Int32} (hs : s < 2) : ∀ (q i : Nat) (B D : Nat → Nat → Int32), i + q = 6 → D 22 3 = x → Sh B D → sI t D → Sh (lp (b_drt s x) q i B) (lp (d_drt s) q i D) ∧ sI t (lp (d_drt s) q i D) := by
  intro q
  induction q with
  | zero => intro i B D _ _ h h2; exact ⟨h, h2⟩
  | succ q ih =>
    intro i B D hi hx h h2
    refine ih (i + 1) _ _ (by omega) ?_ ?_ ?_
    · unfold d_drt
      rw [u2_k _ _ _ _ (by decide)]
      exact hx
    · unfold b_drt d_drt
      rw [hx]
      by_cases c : x >>> (nI i &&& 31) &&& 1 = 1
      · rw [if_pos c]
        have : bi (¬ D 14 (6 * s + i) = 0 ∨ x >>> (nI i &&& 31) &&& 1 = 1) = 1 := if_pos (Or.inr c)
        rw [this]
        exact h.u2 _ _ _
      · rw [if_neg c]
        have : bi (¬ D 14 (6 * s + i) = 0 ∨ x >>> (nI i &&& 31) &&& 1 = 1) = D 14 (6 * s + i) := by
          unfold bi
          rcases h2.2.1 (6 * s + i) (by omega) with z | z
          · rw [z, if_neg (fun w => w.elim (fun w => w rfl) c)]
          · rw [z, if_pos (Or.inl (by decide))]
        rw [this]
        intro k j hk
        rw [u2_e]
        split
        · rename_i w
          rw [w.1, w.2]
          exact h 14 _ (by omega)
        · exact h k j hk
    · unfold d_drt
      refine h2.u2 (okv_14 ?_)
      unfold bi
      split
      · exact Or.inr rfl
      · exact Or.inl rfl
theorem drt_k {k i : Nat} (h : k ≠ 14) (q j : Nat) (D : Nat → Nat → Int32) : lp (d_drt s) q j D k i = D k i := lp_k (fun D a => u2_k _ _ _ _ h) q j D
theorem JR.dem (hs : s < 2) (h : JR t π τ (B, E) D) (e12 : e 12 = D 22 11) (e13 : e 13 = D 22 3) : JR t π τ (aDem s e B, E) (deM s D) := by
  have hS : Sh B D := h.1
  unfold aDem deM dmX
  simp only [hS.sv s, e12, e13]
  obtain ⟨j1, j2⟩ := drt_JR (t := t) (x := D 22 3) hs 6 0 (u2 B 5 s (D 22 11)) (u2 D 5 s (D 22 11)) rfl (u2_k _ _ _ _ (by decide)) (hS.u2 _ _ _) (h.2.1.u2 (okv_o (by decide)))
  have hk : ∀ k i, k ≠ 14 → k ≠ 5 → lp (d_drt s) 6 0 (u2 D 5 s (D 22 11)) k i = D k i := fun k i a b => by rw [drt_k a, u2_k _ _ _ _ b]
  rw [j1 2 s (by omega)]
  generalize lp (d_drt s) 6 0 (u2 D 5 s (D 22 11)) = D2 at *
  generalize lp (b_drt s (D 22 3)) 6 0 (u2 B 5 s (D 22 11)) = B2 at *
  split
  · split
    · exact JR.mk (j1.u2 _ _ _) (h.2.of (j2.u2 (okv_2 (Or.inr (Or.inl rfl)))) (fun k i q => by rw [u2_k _ _ _ _ (by omega), hk k i (by omega) (by omega)]))
    · exact JR.mk j1 (h.2.of j2 (fun k i q => hk k i (by omega) (by omega)))
  · exact h
end DLV
