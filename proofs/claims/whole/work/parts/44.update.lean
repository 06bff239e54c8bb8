/-! updates on both sides; deliver -/
def OS (x y : Option (Nat → Nat → Int32)) : Prop := match x, y with
  | some B, some D => Sh B D
  | none, none => True
  | _, _ => False
def OA (P : (Nat → Nat → Int32) → Prop) (x : Option (Nat → Nat → Int32)) : Prop := match x with
  | some D => P D
  | none => True
theorem Sh.fre {B D : Nat → Nat → Int32} (h : Sh B D) (r : Nat) (g : Int32) : Sh (b_fre B r g) (b_fre D r g) := ((h.clr r).u2 _ _ _).u2 _ _ _
theorem Sh.len {B D : Nat → Nat → Int32} (h : Sh B D) (r : Nat) (cl un po g : Int32) : Sh (b_len B r cl un po g) (b_len D r cl un po g) := ((((((h.u2 _ _ _).u2 _ _ _).u2 _ _ _).u2 _ _ _).u2 _ _ _).u2 _ _ _).u2 _ _ _
section UPD
variable {t τ s : Nat} {π : Nat → Nat} {B E D : Nat → Nat → Int32} {e : Nat → Int32}
theorem tkA_S (h : Sh B D) (r : Nat) (now k cl un g po : Int32) : OS (tkA B r now k cl un g po) (tkA D r now k cl un g po) := by
  unfold tkA
  rw [h 12 r (by omega), h 7 r (by omega), h 9 r (by omega), h 11 r (by omega)]
  repeat' split
  all_goals first | exact trivial | exact h.fre _ _ | exact h.len _ _ _ _ _ | exact (h.u2 _ _ _).u2 _ _ _
theorem rcA_S (h : Sh B D) (r : Nat) (now k cl un g po : Int32) : OS (rcA B r now k cl un g po) (rcA D r now k cl un g po) := by
  unfold rcA
  rw [h 12 r (by omega), h 7 r (by omega), h 9 r (by omega), h 8 r (by omega)]
  repeat' split
  all_goals first | exact trivial | exact h.fre _ _ | exact h.len _ _ _ _ _ | exact (h.len _ _ _ _ _).u2 _ _ _
/-- what an update may do: the relation's own numbers stay, and nothing but records changes -/
def uOK (t : Nat) (D D' : Nat → Nat → Int32) : Prop := sI t D' ∧ ∀ k i, (k < 7 ∨ 14 < k) → D' k i = D k i
theorem fre_u (h : sI t D) (r : Nat) (g : Int32) : uOK t D (b_fre D r g) := ⟨((h.clr r).u2 (okv_o (by decide))).u2 (okv_14 (Or.inl rfl)), fun k i hk => by unfold b_fre; rw [u2_k _ _ _ _ (by omega), u2_k _ _ _ _ (by omega), clr_k hk]⟩
theorem len_u (h : sI t D) (r : Nat) (cl un po g : Int32) : uOK t D (b_len D r cl un po g) := ⟨((((((h.u2 (okv_7 (Or.inr (Or.inl rfl)))).u2 (okv_o (by decide))).u2 (okv_o (by decide))).u2 (okv_o (by decide))).u2 (okv_o (by decide))).u2 (okv_o (by decide))).u2 (okv_14 (Or.inl rfl)), fun k i hk => by unfold b_len; rw [u2_k _ _ _ _ (by omega), u2_k _ _ _ _ (by omega), u2_k _ _ _ _ (by omega), u2_k _ _ _ _ (by omega), u2_k _ _ _ _ (by omega), u2_k _ _ _ _ (by omega), u2_k _ _ _ _ (by omega)]⟩
theorem uOK.u2 {D' : Nat → Nat → Int32} (h : uOK t D D') {k r : Nat} {v : Int32} (hk : 7 < k ∧ k < 14) : uOK t D (u2 D' k r v) := ⟨h.1.u2 (okv_o (by omega)), fun k' i q => by rw [u2_k _ _ _ _ (by omega), h.2 k' i q]⟩
theorem tkA_u (h : sI t D) (r : Nat) (now k cl un g po : Int32) : OA (uOK t D) (tkA D r now k cl un g po) := by
  have h0 : uOK t D D := ⟨h, fun _ _ _ => rfl⟩
  unfold tkA
  repeat' split
  all_goals first | exact trivial | exact fre_u h _ _ | exact len_u h _ _ _ _ _ | exact (h0.u2 (by decide)).u2 (by decide)
theorem rcA_u (h : sI t D) (r : Nat) (now k cl un g po : Int32) : OA (uOK t D) (rcA D r now k cl un g po) := by
  unfold rcA
  repeat' split
  all_goals first | exact trivial | exact fre_u h _ _ | exact len_u h _ _ _ _ _ | exact (len_u h _ _ _ _ _).u2 (by decide)
theorem got_or : ∀ g, g < 64 → ∀ a, a < 6 → nI g ||| 1 <<< (nI a &&& 31) = nI (g ||| 2 ^ a) ∧ (g ||| 2 ^ a) < 64 := by decide +kernel
theorem tuA_S (h : Sh B D) (a : Nat) (now k cl un g po se : Int32) : OS (tuA B s a now k cl un g po se) (tuA D s a now k cl un g po se) := by
  unfold tuA
  rw [h 2 s (by omega), h 4 s (by omega), h 6 s (by omega)]
  split
  · split
    · split
      · exact tkA_S h _ _ _ _ _ _ _
      · have o := rcA_S h (6 * s + a) now k cl un g po
        generalize rcA B (6 * s + a) now k cl un g po = X at o
        generalize rcA D (6 * s + a) now k cl un g po = Y at o
        match X, Y, o with
        | some X, some Y, o =>
          have o2 : Sh X Y := o
          show Sh (u2 X 6 s _) (u2 Y 6 s _)
          rw [o2 6 s (by omega)]
          exact o2.u2 _ _ _
        | none, none, _ => exact trivial
        | some _, none, o => exact o.elim
        | none, some _, o => exact o.elim
    · exact trivial
  · exact tkA_S h _ _ _ _ _ _ _
theorem tuA_u (h : sI t D) (hs : s < 2) {a : Nat} (ha : a < 6) (now k cl un g po se : Int32) : OA (fun D' => sI t D' ∧ ∀ k i, (k < 6 ∨ 14 < k) → D' k i = D k i) (tuA D s a now k cl un g po se) := by
  have w : ∀ x, OA (uOK t D) x → OA (fun D' => sI t D' ∧ ∀ k i, (k < 6 ∨ 14 < k) → D' k i = D k i) x := by
    intro x hx
    match x, hx with
    | some x, hx =>
      have hx : uOK t D x := hx
      exact ⟨hx.1, fun k i q => hx.2 k i (by omega)⟩
    | none, _ => exact trivial
  unfold tuA
  split
  · split
    · split
      · exact w _ (tkA_u h _ _ _ _ _ _ _)
      · have o := rcA_u h (6 * s + a) now k cl un g po
        generalize rcA D (6 * s + a) now k cl un g po = Y at o
        match Y, o with
        | some Y, o =>
          have o : uOK t D Y := o
          obtain ⟨g, hg, q⟩ := o.1.2.2.2.1 s hs
          show sI t (u2 Y 6 s _) ∧ _
          rw [q, (got_or g hg a ha).1]
          exact ⟨o.1.u2 (okv_6 ⟨_, (got_or g hg a ha).2, rfl⟩), fun k i z => by show u2 Y 6 s _ k i = _; rw [u2_k _ _ _ _ (by omega), o.2 k i (by omega)]⟩
        | none, _ => exact trivial
    · exact trivial
  · exact w _ (tkA_u h _ _ _ _ _ _ _)
theorem JR.upd (hs : s < 2) {a : Nat} (ha : a < 6) (h : JR t π τ (B, E) D) (hz : ¬ D 2 s = 0) (e1 : e 1 = nI (1 - s)) (e2 : e 2 = nI s) (e5 : e 5 = D 22 3) (c3 : D 22 3 = nI a) (e6 : e 6 = D 22 4) (e7 : e 7 = D 22 6) (e8 : e 8 = D 22 7) (e9 : e 9 = D 22 8) (e10 : e 10 = D 22 9) (e11 : e 11 = D 22 10) (e12 : e 12 = D 22 11) : JR t π τ (aUpd π s a e (B, E)) (udX s a D) := by
  have hS : Sh B D := h.1
  have h0 : D 0 0 = nI t := h.2.1.1
  have hst : D 2 s = 4 ∨ srv D s = true := by
    unfold srv
    rcases h.2.1.2.2.2.2.2 s hs with q | q | q | q | q
    · exact absurd q hz
    · exact Or.inr (by simp [q])
    · exact Or.inr (by simp [q])
    · exact Or.inr (by simp [q])
    · exact Or.inl q
  unfold aUpd udX tlX
  rw [if_pos hst]
  simp only [hS 0 0 (by omega), e6, e7, e8, e9, e11, e12]
  have o := tuA_S (s := s) hS a (D 0 0) (D 22 4) (D 22 6) (D 22 7) (D 22 8) (D 22 10) (D 22 11)
  have u := tuA_u (s := s) h.2.1 hs ha (D 0 0) (D 22 4) (D 22 6) (D 22 7) (D 22 8) (D 22 10) (D 22 11)
  generalize tuA B s a (D 0 0) (D 22 4) (D 22 6) (D 22 7) (D 22 8) (D 22 10) (D 22 11) = X at o ⊢
  generalize tuA D s a (D 0 0) (D 22 4) (D 22 6) (D 22 7) (D 22 8) (D 22 10) (D 22 11) = Y at o u ⊢
  match X, Y, o, u with
  | some B2, some D2, o, u =>
    have o : Sh B2 D2 := o
    have u : sI t D2 ∧ ∀ k i, (k < 6 ∨ 14 < k) → D2 k i = D k i := u
    have hJ : JR t π τ (B2, E) D2 := JR.mk o (h.2.of u.1 (fun k i hk => u.2 k i (by omega)))
    have h00 : D2 0 0 = nI t := by rw [u.2 _ _ (by decide), h0]
    show JR t π τ (pB B2, pE B2 E π (alist e (D 0 0))) (akX D2 s)
    have u3 : D2 22 3 = nI a := by rw [u.2 _ _ (by decide), c3]
    have u8 : D2 22 8 = D 22 8 := u.2 _ _ (by decide)
    have u9 : D2 22 9 = D 22 9 := u.2 _ _ (by decide)
    have u10 : D2 22 10 = D 22 10 := u.2 _ _ (by decide)
    unfold akX
    refine hJ.send (D' := u2 (u2 (u2 (bgn D2 5 (nI s) (nI (1 - s)) (D2 22 3) (D2 22 9)) 23 8 (D2 22 8)) 23 9 (D2 22 9)) 23 10 (D2 22 10)) (fun k i hk => by rw [u2_k _ _ _ _ hk, u2_k _ _ _ _ hk, u2_k _ _ _ _ hk, bgn_k hk]) (fun m => ?_)
    refine ⟨⟨?_, ?_, ?_, ?_⟩, ⟨t, Nat.le_refl t, ?_⟩, Or.inr (Or.inr (Or.inr (Or.inr (Or.inr (Or.inl ⟨?_, ⟨1 - s, by omega, ?_⟩, ?_, ⟨a, ha, ?_⟩, ?_, ?_, ?_, ?_⟩)))))⟩
    all_goals simp [nxt_u2, nxt_bgn, stm, alist, u2_e, h0, h00, u3, u8, u9, u10, e1, e2, e5, c3, e9, e10, e11]
  | none, none, _, _ => exact h
  | some _, none, o, _ => exact o.elim
  | none, some _, o, _ => exact o.elim
theorem ctc_ne (hs : s < 2) (h : ctc D = true) : ¬ D 2 s = 0 := by
  unfold ctc at h
  simp only [Bool.and_eq_true, Bool.not_eq_true', decide_eq_false_iff_not] at h
  rcases (show s = 0 ∨ s = 1 by omega) with rfl | rfl
  · exact h.1.2
  · exact h.2
end UPD
section STEPS5
variable {dA ad ix : Nat → Nat} {B E D : Nat → Nat → Int32} {π : Nat → Nat} {τ t m : Nat}
/-- what a message that has been taken does on both sides -/
def dOK (dA ad ix : Nat → Nat) (t m k : Nat) (π : Nat → Nat) (τ : Nat) (B E D : Nat → Nat → Int32) : Prop :=
  ((∀ Q D', pz_C dA 5 28 [.ref (ad 0), .ref (ad (60 + m))] (pz_wf ad ix (cw dA ad B E π τ D')) Q = Q (some (.int 0)) (pz_wf ad ix (cw dA ad B E π τ D'))) ∧
    (∀ Q B' E', pz_R dA 6 114 50 [.ref (ad 100), .int (nI k), .int (nI 12)] [] (pz_wf ad ix (cw dA ad B' E' π τ D)) Q = Q (some (.int 0)) (pz_wf ad ix (cw dA ad B' E' π τ D)))) ∨
  ∃ (x : BE) (D1 : Nat → Nat → Int32), (∀ Q D', pz_C dA 5 28 [.ref (ad 0), .ref (ad (60 + m))] (pz_wf ad ix (cw dA ad B E π τ D')) Q = Q (some (.int 1)) (pz_wf ad ix (cw dA ad B E π τ D'))) ∧
    (∀ Q D', pz_C dA 5 29 [.ref (ad 0), .ref (ad (60 + m))] (pz_wf ad ix (cw dA ad B E π τ D')) Q = Q none (pz_wf ad ix (cw dA ad x.1 x.2 π τ D'))) ∧
    (∀ Q B' E', pz_R dA 6 114 50 [.ref (ad 100), .int (nI k), .int (nI 12)] [] (pz_wf ad ix (cw dA ad B' E' π τ D)) Q = Q (some (.int 1)) (pz_wf ad ix (cw dA ad B' E' π τ D1))) ∧ JR t π τ x D1
theorem dlv (hA : ∀ i, ix (ad i) = i) {k : Nat} (hm : m < 25) (h : JR t π τ (B, E) D) (hM : mR t (E m) (D 22)) : dOK dA ad ix t m k π τ B E D := by
  have hS : Sh B D := h.1
  obtain ⟨n, hn, hc, -⟩ := h.2.2.2.1
  have hp : ∀ j, π j < 25 := h.2.2.1.1
  have hcB : B 20 0 = nI n := (hS 20 0 (by omega)).trans hc
  have hct : ctc B = ctc D := hS.ct
  obtain ⟨⟨a0, a1, a2, a3⟩, -, hk⟩ := hM
  rcases hk with ⟨b, ⟨s, hs, q2⟩, ⟨c, hcl, q1⟩, c1, c2⟩ | ⟨b, ⟨c, hcl, q2⟩, c1, c2, ⟨a, ha, q4⟩, c3⟩ | ⟨b, ⟨c, hcl, q2⟩, c1, c2⟩ | ⟨b, ⟨s, hs, q2⟩, c1, ⟨a, ha, q3⟩, c2⟩ | ⟨b, ⟨s, hs, q2, q1⟩, c1, ⟨a, ha, q3⟩, c2, c3, c4, c5, c6, c7, c8, c9⟩ | ⟨b, ⟨s, hs, q2⟩, c1, ⟨a, ha, q3⟩, c2, c3, c4, c5⟩ | ⟨b, ⟨s, hs, q2⟩, c1, c2, c3⟩
  · have h2s : B 2 s = D 2 s := hS 2 s (by omega)
    by_cases z : D 2 s = 0
    · exact Or.inl ⟨fun Q D' => by rw [m28_0 hA hm hs (a0.trans b) (a2.trans q2), h2s, if_pos z], fun Q B' E' => by rw [f114_0 hA hn hs q2 hc b, if_pos z]⟩
    · exact Or.inr ⟨aAsk π s (E m) (B, E), asX s D, fun Q D' => by rw [m28_0 hA hm hs (a0.trans b) (a2.trans q2), h2s, if_neg z], fun Q D' => m29_0 hA hn hp hm hs (a2.trans q2) hcB (a0.trans b), fun Q B' E' => by rw [f114_0 hA hn hs q2 hc b, if_neg z], h.ask hs hcl a1 (a2.trans q2) q1 c1⟩
  · exact Or.inr ⟨(aLea c (E m) B, E), leX c D, fun Q D' => m28_1 hA hm (a0.trans b), fun Q D' => m29_1 hA hm hcl (a2.trans q2) (a0.trans b), fun Q B' E' => f114_1 hA hcl q2 b, h.lea hcl c1 c2 ha q4 c3⟩
  · exact Or.inr ⟨(aDen c (E m) B, E), deX c D, fun Q D' => m28_2 hA hm (a0.trans b), fun Q D' => m29_2 hA hm hcl (a2.trans q2) (a0.trans b), fun Q B' E' => f114_2 hA hcl q2 b, h.den hcl c1⟩
  · have h2s : B 2 s = D 2 s := hS 2 s (by omega)
    by_cases z : D 2 s = 0
    · exact Or.inl ⟨fun Q D' => by rw [m28_3 hA hm hs (a0.trans b) (a2.trans q2), h2s, if_pos z], fun Q B' E' => by rw [f114_3 hA hs q2 ha q3 b, if_pos z]⟩
    · exact Or.inr ⟨(aRel s a (E m) B, E), reX s a D, fun Q D' => by rw [m28_3 hA hm hs (a0.trans b) (a2.trans q2), h2s, if_neg z], fun Q D' => m29_3 hA hm hs (a2.trans q2) ha (c1.trans q3) (a0.trans b), fun Q B' E' => by rw [f114_3 hA hs q2 ha q3 b, if_neg z], h.rel a1⟩
  · by_cases z : ctc D = true
    · have z2 := ctc_ne hs z
      exact Or.inr ⟨aUpd π s a (E m) (B, E), udX s a D, fun Q D' => by rw [m28_4 hA hm (a0.trans b), hct, if_pos z], fun Q D' => m29_4 hA hn hp hm hs (a2.trans q2) ha (c1.trans q3) hcB (a0.trans b), fun Q B' E' => by rw [f114_4 hA hn hs q2 ha q3 c3 hc b, if_neg z2, if_pos z], h.upd hs ha z2 (a1.trans q1) (a2.trans q2) c1 q3 c2 c4 c5 c6 c7 c8 c9⟩
    · refine Or.inl ⟨fun Q D' => by rw [m28_4 hA hm (a0.trans b), hct, if_neg z], fun Q B' E' => ?_⟩
      rw [f114_4 hA hn hs q2 ha q3 c3 hc b, if_neg z]
      split <;> rfl
  · by_cases z : ctc D = true
    · have z2 := ctc_ne hs z
      exact Or.inr ⟨(aAck s a (E m) B, E), acX s a D, fun Q D' => by rw [m28_5 hA hm (a0.trans b), hct, if_pos z], fun Q D' => m29_5 hA hm hs (a2.trans q2) ha (c1.trans q3) (a0.trans b), fun Q B' E' => by rw [f114_5 hA hs q2 ha q3 b, if_neg z2, if_pos z], h.ack c4 c3 c5⟩
    · refine Or.inl ⟨fun Q D' => by rw [m28_5 hA hm (a0.trans b), hct, if_neg z], fun Q B' E' => ?_⟩
      rw [f114_5 hA hs q2 ha q3 b, if_neg z]
      split <;> rfl
  · by_cases z : ctc D = true
    · have z2 := ctc_ne hs z
      exact Or.inr ⟨(aDem s (E m) B, E), deM s D, fun Q D' => by rw [m28_6 hA hm (a0.trans b), hct, if_pos z], fun Q D' => m29_6 hA hm hs (a2.trans q2) (a0.trans b), fun Q B' E' => by rw [f114_6 hA hs q2 b, if_neg z2, if_pos z], h.dem hs c3 c1⟩
    · refine Or.inl ⟨fun Q D' => by rw [m28_6 hA hm (a0.trans b), hct, if_neg z], fun Q B' E' => ?_⟩
      rw [f114_6 hA hs q2 b, if_neg z]
      split <;> rfl
theorem nowX_k {k j i : Nat} (h : j ≠ 22) : nowX D k j i = D j i := lp_k (fun D a => u2_k _ _ _ _ h) 12 0 D
theorem nowX_22 {k j : Nat} (h : j < 12) : nowX D k 22 j = D 21 (12 * k + j) := by
  unfold nowX
  rw [lp_nw, if_pos (by omega)]
theorem st_deliver (hA : ∀ i, ix (ad i) = i) (hG : GR t E π τ D) (x : Int32) : stepOK dA ad ix t E π τ D 4 114 [.int x] := by
  obtain ⟨h1, h2, ⟨n, hn, hc, hf⟩, h4⟩ := id hG
  rcases csN x (n := n) (by omega) with h | ⟨k, hk, rfl⟩
  · rw [← hc] at h
    refine step_id hG 0 (fun Q => m4n hA h) (fun Q => m114n hA ?_)
    rcases h with h | ⟨h, h3⟩
    · exact Or.inl h
    · exact Or.inr ⟨h, Int32.not_lt.mpr h3⟩
  · obtain ⟨n, rfl⟩ : ∃ j, n = j + 1 := ⟨n - 1, by omega⟩
    have hm : π k < 25 := h2.1 k
    have hr : mR t (E (π k)) (ml D k) := fa2_get hf (es_get hk) (mls_get hk)
    have hX : ∀ j i, j ≠ 20 → j ≠ 21 → j ≠ 22 → oX (nowX D k) n k j i = D j i := fun j i a b c => by rw [oX_k ⟨a, b⟩, nowX_k c]
    have hml : mls (nowX D k) (n + 1) = mls D (n + 1) := mls_ext (fun q _ => nowX_k (by decide))
    have hJ : JR t (pt π τ n k) (π k) (u2 D 20 0 (nI n), E) (oX (nowX D k) n k) := by
      refine JR.mk ?_ ?_
      · intro j i hj
        by_cases h9 : j = 20
        · subst h9
          by_cases h8 : i = 0
          · subst h8
            rw [u2_s, oX_20]
          · rw [u2_i _ _ _ _ h8]
            unfold oX
            rw [u2_i _ _ _ _ h8, lp_k (fun D a => u2_k _ _ _ _ (by decide)), nowX_k (by decide)]
        · rw [u2_k _ _ _ _ h9, hX j i h9 (by omega) (by omega)]
      · refine ⟨h1.ext (fun j i hj => hX j i (by omega) (by omega) (by omega)), h2.take hk hn, ⟨n, by omega, oX_20, ?_⟩, fun c hc => by rw [hX _ _ (by decide) (by decide) (by decide)]; exact h4 c hc⟩
        rw [es_pt hk, mls_oX hk, hml]
        exact fa2_era k hf
    have hM : mR t (E (π k)) (oX (nowX D k) n k 22) := hr.extm (fun j hj => by
      rw [oX_k (by decide), nowX_22 hj]
      unfold ml
      rw [if_pos hj])
    rcases dlv (dA := dA) hA (k := k) hm hJ hM with ⟨d1, d2⟩ | ⟨x1, D1, d1, d2, d3, d4⟩
    · refine ⟨0, _, _, _, _, oX (nowX D k) n k, t, Nat.le_succ t, fun Q => ?_, fun Q => ?_, hJ.1, hJ.2⟩
      · rw [m4 hA hk hn hc h2.1 h2.2.1, d1]
        exact m4z hA
      · rw [m114 hA hk hn hc, d2]
    · refine ⟨1, x1.1, x1.2, _, _, D1, t, Nat.le_succ t, fun Q => ?_, fun Q => ?_, d4.1, d4.2⟩
      · rw [m4 hA hk hn hc h2.1 h2.2.1, d1]
        show pz_R dA 6 4 27 [.ref (ad 0), .int (nI k), .ref (ad (60 + π k))] [.int 1] _ Q = _
        rw [m4o hA hm, d2]
        exact m4e
      · rw [m114 hA hk hn hc, d3]
end STEPS5
