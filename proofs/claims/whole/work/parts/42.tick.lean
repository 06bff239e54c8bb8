/-! tick on both sides -/
def JR (t : Nat) (π : Nat → Nat) (τ : Nat) (x : BE) (D : Nat → Nat → Int32) : Prop := Sh x.1 D ∧ GR t x.2 π τ D
theorem JR.mk {t τ : Nat} {π : Nat → Nat} {B E D : Nat → Nat → Int32} (h : Sh B D) (g : GR t E π τ D) : JR t π τ (B, E) D := ⟨h, g⟩
theorem JR.send {t τ : Nat} {π : Nat → Nat} {x : BE} {D D' : Nat → Nat → Int32} {l : List (Nat × Int32)} (h : JR t π τ x D) (hD : ∀ k i, k ≠ 23 → D' k i = D k i) (hm : ∀ m, mR t (stm x.2 m l m) (nxt D')) : JR t π τ (pB x.1, pE x.1 x.2 π l) (pX D') := by
  obtain ⟨hS, h1, h2, ⟨n, hn, hc, hf⟩, h4⟩ := h
  obtain ⟨s1, s2, s3⟩ := send_ok (t := t) (B := x.1) (E := x.2) (D := D) (D' := D') (l := l) h2 hn hc hD hS hf (hm _)
  refine ⟨s1, h1.ext (fun k i hk => by rw [pX_k (by omega), hD k i (by omega)]), h2, s2, fun c hc => ?_⟩
  show pE x.1 x.2 π l 25 c = _ ∨ (pE x.1 x.2 π l 25 c = _ ∧ _)
  rw [s3, pX_k (by decide), hD _ _ (by decide)]
  exact h4 c hc
def upD (D : Nat → Nat → Int32) (s a : Nat) : Nat → Nat → Int32 := u2 (u2 (u2 (u2 (u2 (u2 (bgn D 4 (nI s) (nI (1 - s)) (nI a) (D 7 (6 * s + a))) 23 6 (D 8 (6 * s + a))) 23 7 (D 9 (6 * s + a))) 23 8 (D 12 (6 * s + a))) 23 9 (D 13 (6 * s + a))) 23 10 (D 0 0 + 20)) 23 11 (D 5 s)
theorem nxt_bgn {D : Nat → Nat → Int32} {w f t x y : Int32} {j : Nat} (hj : j < 12) : nxt (bgn D w f t x y) j = if j = 5 then D 0 0 else if j = 4 then y else if j = 3 then x else if j = 2 then t else if j = 1 then f else if j = 0 then w else 0 := by
  rw [nx_e _ hj, bgn_23 hj]
theorem nxt_u2 {D : Nat → Nat → Int32} {i j : Nat} {v : Int32} (hj : j < 12) : nxt (u2 D 23 i v) j = if j = i then v else nxt D j := by
  rw [nx_e _ hj, u2_e, nx_e _ hj]
  by_cases h : j = i
  · rw [if_pos ⟨rfl, h⟩, if_pos h]
  · rw [if_neg (fun q => h q.2), if_neg h]
theorem Sh.ul {B D : Nat → Nat → Int32} (h : Sh B D) (s a : Nat) : ulist B s a = ulist D s a := by
  unfold ulist
  rw [h 0 0 (by omega), h 7 _ (by omega), h 8 _ (by omega), h 9 _ (by omega), h 12 _ (by omega), h 13 _ (by omega), h 5 _ (by omega)]
theorem Sh.dl {B D : Nat → Nat → Int32} (h : Sh B D) (s : Nat) : dlist B s = dlist D s := by
  unfold dlist
  rw [h 0 0 (by omega), h 6 _ (by omega), h 4 _ (by omega)]
theorem up_ok {t τ s a : Nat} {π : Nat → Nat} {x : BE} {D : Nat → Nat → Int32} (hs : s < 2) (ha : a < 6) (h : JR t π τ x D) : JR t π τ (pB x.1, pE x.1 x.2 π (ulist x.1 s a)) (upX D s a) := by
  have hS : Sh x.1 D := h.1
  rw [hS.ul]
  refine h.send (D' := upD D s a) (fun k i hk => by unfold upD; rw [u2_k _ _ _ _ hk, u2_k _ _ _ _ hk, u2_k _ _ _ _ hk, u2_k _ _ _ _ hk, u2_k _ _ _ _ hk, u2_k _ _ _ _ hk, bgn_k hk]) (fun m => ?_)
  have h7 := h.2.1.2.2.2.2.1 (6 * s + a) (by omega)
  have h0 : D 0 0 = nI t := h.2.1.1
  have hss : s = 1 - (1 - s) := by omega
  refine ⟨⟨?_, ?_, ?_, ?_⟩, ⟨t, Nat.le_refl t, ?_⟩, Or.inr (Or.inr (Or.inr (Or.inr (Or.inl ⟨?_, ⟨1 - s, by omega, ?_, ?_⟩, ?_, ⟨a, ha, ?_⟩, ?_, ?_, ?_, ?_, ?_, ?_, ?_, ?_⟩))))⟩
  case refine_8 =>
    have e : nxt (upD D s a) 1 = nI s := by simp [upD, nxt_u2, nxt_bgn]
    rw [e, ← hss]
  all_goals simp [upD, nxt_u2, nxt_bgn, stm, ulist, u2_e, h0, h7]
theorem su_JR {t τ s : Nat} {π : Nat → Nat} (hs : s < 2) : ∀ (q a c : Nat) (x : BE) (D : Nat → Nat → Int32), a + q = 6 → JR t π τ x D → JR t π τ (su π s q a c x) (suX s q a c D) := by
  intro q
  induction q with
  | zero => intro a c x D _ h; exact h
  | succ q ih =>
    intro a c x D ha h
    have h14 : x.1 14 (6 * s + a) = D 14 (6 * s + a) := h.1 14 _ (by omega)
    unfold su suX
    rw [h14]
    split
    · split
      · exact ih _ _ _ _ (by omega) h
      · exact ih _ _ _ _ (by omega) (up_ok hs (by omega) h)
    · exact h
theorem not63 : ∀ g, g < 64 → (63 : Int32) &&& ~~~ nI g = 63 - nI g := by decide +kernel
theorem tel_JR {t τ s : Nat} {π : Nat → Nat} (hs : s < 2) {x : BE} {D : Nat → Nat → Int32} (h : JR t π τ x D) : JR t π τ (tel π s x) (teX s D) := by
  have hS : Sh x.1 D := h.1
  unfold tel teX
  rw [hS 2 s (by omega), hS 6 s (by omega)]
  split
  · exact su_JR hs 6 0 0 x D rfl h
  · split
    · rw [hS.dl]
      obtain ⟨g, hg, e6⟩ := h.2.1.2.2.2.1 s hs
      have h0 : D 0 0 = nI t := h.2.1.1
      unfold dmS
      refine h.send (D' := u2 (bgn D 6 (nI s) (nI (1 - s)) (63 - D 6 s) 0) 23 11 (D 4 s)) (fun k i hk => by rw [u2_k _ _ _ _ hk, bgn_k hk]) (fun m => ?_)
      refine ⟨⟨?_, ?_, ?_, ?_⟩, ⟨t, Nat.le_refl t, ?_⟩, Or.inr (Or.inr (Or.inr (Or.inr (Or.inr (Or.inr ⟨?_, ⟨1 - s, by omega, ?_⟩, ?_, ?_, ?_⟩)))))⟩
      all_goals simp [nxt_u2, nxt_bgn, stm, dlist, u2_e, h0, e6, not63 g hg]
    · exact h
theorem Sh.fol {B D : Nat → Nat → Int32} (h : Sh B D) (s : Nat) (ct x : Int32) : Sh (b_fol B s ct x) (b_fol D s ct x) := by
  unfold b_fol
  rw [h 2 s (by omega), h 6 s (by omega), h 3 s (by omega)]
  split
  · exact h.u2 _ _ _
  · split
    · exact h.u2 _ _ _
    · split
      · exact h.u2 _ _ _
      · exact h
theorem Sh.chg {B D : Nat → Nat → Int32} (h : Sh B D) (r : Nat) : Sh (b_chg B r) (b_chg D r) := by
  unfold b_chg
  rw [h 13 r (by omega)]
  exact (h.u2 _ _ _).u2 _ _ _
theorem Sh.end {B D : Nat → Nat → Int32} (h : Sh B D) (r : Nat) : Sh (b_end B r) (b_end D r) := (h.u2 _ _ _).chg r
theorem Sh.exp {B D : Nat → Nat → Int32} (h : Sh B D) (s : Nat) (now : Int32) (a : Nat) : Sh (b_exp s now B a) (b_exp s now D a) := by
  unfold b_exp
  rw [h 7 _ (by omega), h 9 _ (by omega)]
  split
  · split
    · exact h
    · exact h.end _
  · exact h
theorem Sh.lp {f g : (Nat → Nat → Int32) → Nat → (Nat → Nat → Int32)} (hfg : ∀ B D a, Sh B D → Sh (f B a) (g D a)) : ∀ (t i : Nat) (B D : Nat → Nat → Int32), Sh B D → Sh (lp f t i B) (lp g t i D) := by
  intro t
  induction t with
  | zero => intro i B D h; exact h
  | succ t ih => intro i B D h; exact ih _ _ _ (hfg _ _ _ h)
theorem Sh.ct {B D : Nat → Nat → Int32} (h : Sh B D) : ctc B = ctc D := by
  unfold ctc
  rw [h 1 0 (by omega), h 2 0 (by omega), h 2 1 (by omega)]
theorem Sh.sv {B D : Nat → Nat → Int32} (h : Sh B D) (s : Nat) : srv B s = srv D s := by
  unfold srv
  rw [h 2 s (by omega)]
theorem Sh.tk {B D : Nat → Nat → Int32} (h : Sh B D) (s : Nat) : Sh (tkB s B) (tkB s D) := by
  unfold tkB
  rw [h.ct, h 0 0 (by omega), (h.fol s _ _).sv s]
  split
  · exact Sh.lp (fun B D a h => h.exp s _ a) 6 0 _ _ (h.fol s _ _)
  · exact h.fol s _ _
theorem sI.chg {t : Nat} {D : Nat → Nat → Int32} (h : sI t D) (r : Nat) : sI t (b_chg D r) := (h.u2 (okv_o (by decide))).u2 (okv_14 (Or.inr rfl))
theorem sI.end {t : Nat} {D : Nat → Nat → Int32} (h : sI t D) (r : Nat) : sI t (b_end D r) := (h.u2 (okv_7 (Or.inr (Or.inr rfl)))).chg r
theorem sI.lp {t : Nat} {f : (Nat → Nat → Int32) → Nat → (Nat → Nat → Int32)} (hf : ∀ D a, sI t D → sI t (f D a)) : ∀ (q i : Nat) (D : Nat → Nat → Int32), sI t D → sI t (lp f q i D) := by
  intro q
  induction q with
  | zero => intro i D h; exact h
  | succ q ih => intro i D h; exact ih _ _ (hf _ _ h)
theorem sI.exp {t : Nat} {D : Nat → Nat → Int32} (h : sI t D) (s : Nat) (now : Int32) (a : Nat) : sI t (b_exp s now D a) := by
  unfold b_exp
  split
  · split
    · exact h
    · exact h.end _
  · exact h
theorem sI.fol {t : Nat} {D : Nat → Nat → Int32} (h : sI t D) (s : Nat) (ct x : Int32) : sI t (b_fol D s ct x) := by
  unfold b_fol
  split
  · exact h.u2 (okv_2 (by simp))
  · split
    · exact h.u2 (okv_2 (by simp))
    · split
      · exact h.u2 (okv_2 (by simp))
      · exact h
theorem sI.tk {t : Nat} {D : Nat → Nat → Int32} (h : sI t D) (s : Nat) : sI t (tkB s D) := by
  unfold tkB
  split
  · exact sI.lp (fun D a h => h.exp s _ a) 6 0 _ (h.fol s _ _)
  · exact h.fol s _ _
theorem tkB_2 {s i : Nat} {B : Nat → Nat → Int32} : tkB s B 2 i = b_fol B s (bi (ctc B = true)) (B 0 0) 2 i := by
  unfold tkB
  split
  · exact lp_exp_k (by omega) 6 0 _
  · rfl
theorem fol_z {s i : Nat} {B : Nat → Nat → Int32} {ct x : Int32} : (b_fol B s ct x 2 i = 0) = (B 2 i = 0) := by
  unfold b_fol
  by_cases hi : i = s
  · subst hi
    split
    · rename_i h
      rw [u2_s, h.1]
      decide
    · split
      · rename_i h
        rw [u2_s, h.1]
        decide
      · split
        · rename_i h
          rw [u2_s, h.1]
          decide
        · rfl
  · split
    · rw [u2_i _ _ _ _ hi]
    · split
      · rw [u2_i _ _ _ _ hi]
      · split
        · rw [u2_i _ _ _ _ hi]
        · rfl
theorem tkB_ctc {s : Nat} {B : Nat → Nat → Int32} : ctc (tkB s B) = ctc B := by
  unfold ctc
  simp only [tkB_2, fol_z, tkB_k (B := B) (s := s) (k := 1) (i := 0) (by decide)]
theorem ts2_JR {t τ s : Nat} {π : Nat → Nat} (hs : s < 2) {x : BE} {D : Nat → Nat → Int32} (h : JR t π τ x D) : JR t π τ (ts2 π x s) (bt2 D s) := by
  have hS : Sh x.1 D := h.1
  unfold ts2 bt2
  rw [hS 2 s (by omega)]
  split
  · exact h
  · unfold tks btX
    rw [tkB_ctc, hS.ct]
    have hJ : JR t π τ (tkB s x.1, x.2) (tkB s D) := ⟨hS.tk s, h.2.of (h.2.1.tk s) (fun k i hk => tkB_k (by omega))⟩
    split
    · exact tel_JR hs hJ
    · exact hJ
theorem drp_JR {t : Nat} {now : Int32} : ∀ (q i : Nat) (B D : Nat → Nat → Int32), i + q = 5 → Sh B D → sI t D → Sh (lp (b_drp now) q i B) (lp (b_dr2 now) q i D) ∧ sI t (lp (b_dr2 now) q i D) := by
  intro q
  induction q with
  | zero => intro i B D _ h h2; exact ⟨h, h2⟩
  | succ q ih =>
    intro i B D hi h h2
    have e : (D 15 i < 0) = (D 15 i = -1) := by
      rcases h2.2.2.1 i (by omega) with a | ⟨a, ha, b⟩
      · rw [a]
        decide
      · rw [b, nm1 (by omega)]
        exact eq_false (nneg (by omega))
    refine ih (i + 1) _ _ (by omega) ?_ ?_
    · unfold b_drp b_dr2
      simp only [h 15 i (by omega), h 16 i (by omega), e]
      split
      · exact h
      · split
        · exact h
        · exact (h.u2 _ _ _).u2 _ _ _
    · unfold b_dr2
      split
      · exact h2
      · split
        · exact h2
        · exact (h2.u2 (okv_15 (Or.inl rfl))).u2 (okv_o (by decide))
theorem old_ok {t u : Nat} (ht : t < 1000) (hu : u ≤ t) : (nI u < nI t + 1 - 3) ↔ ¬ (nI t + 1 - nI u ≤ 3) := by
  rw [nI_1, pk_sub (a := t + 1) (b := u) (by omega)]
  have e : (nI (t + 1) - 3).toInt = ((t + 1 : Nat) : Int) - (3 : Nat) := pk_sub_toInt (a := t + 1) (b := 3) (by omega) (by decide)
  have e2 : (nI (t + 1 - u) ≤ 3) ↔ t + 1 - u ≤ 3 := nI_leI (b := 3) (by omega) (by decide)
  rw [e2, Int32.lt_iff_toInt_lt, e, nI_toInt (by omega)]
  omega
section STEPS4
variable {dA ad ix : Nat → Nat} {E D : Nat → Nat → Int32} {π : Nat → Nat} {τ t n : Nat}
theorem tk_a (ht : t < 1000) (h0 : D 0 0 = nI t) (h2 : PI π τ) (hn : n ≤ 24) (hc : D 20 0 = nI n) (hf : fa2 (mR t) (es E π n) (mls D n)) : PI (tkR π n D E).1 τ ∧ (tkR π n D E).2 ≤ 24 ∧ tX1 n D 20 0 = nI (tkR π n D E).2 ∧ fa2 (mR (t + 1)) (es (tkM π n D E) (tkR π n D E).1 (tkR π n D E).2) (mls (tX1 n D) (tkR π n D E).2) ∧ ∀ c, tkM π n D E 25 c = E 25 c := by
  have hml : mls (u2 D 0 0 (D 0 0 + 1)) n = mls D n := mls_ext (fun q _ => u2_k _ _ _ _ (by decide))
  have hf2 : fa2 (mR (t + 1)) (es E π n) (mls D n) := fa2_imp (fun a b h => h.up (Nat.le_succ t)) hf
  have hr : ∀ k, k < n → mR t (E (π k)) (ml D k) := fun k hk => fa2_get hf (es_get hk) (mls_get hk)
  unfold tkR tkM tX1
  refine flt_ok (t := t + 1) (n := n) (E := E) (D := u2 D 0 0 (D 0 0 + 1)) (π := π) (τ := τ) (v := fun E m => bi (E m 3 < D 0 0 + 1 - 3)) (c := c_old) (p := fun x => !decide (D 0 0 + 1 - x 5 ≤ 3)) (D 0 0 + 1) h2 hn (by rw [u2_k _ _ _ _ (by decide)]; exact hc) (u2_s _ _ _ _) ?_ (fun E E' m he => by simp only [he 3 (by decide)]) (by rw [hml]; exact hf2) ?_
  · intro D' m h
    unfold c_old
    rw [h]
    rfl
  · intro k hk _
    obtain ⟨⟨-, -, -, e3⟩, ⟨u, hu, e5⟩, -⟩ := hr k hk
    have e6 : ml (u2 D 0 0 (D 0 0 + 1)) k 5 = nI u := by
      rw [← e5]
      unfold ml
      rw [if_pos (by decide), if_pos (by decide), u2_k _ _ _ _ (by decide)]
    simp only [bi_0, e3, e5, e6, Bool.not_eq_false', decide_eq_true_eq]
    rw [h0, old_ok ht hu, Decidable.not_not]
theorem tk_b (h1 : sI t D) (k3 : tX1 n D 20 0 = nI (tkR π n D E).2) : Sh (tk1 π n D E) (tX2 n D) ∧ sI (t + 1) (tX2 n D) := by
  have h0 : D 0 0 = nI t := h1.1
  unfold tk1 tX2
  refine drp_JR (t := t + 1) (now := D 0 0 + 1) 5 0 (u2 (u2 D 0 0 (D 0 0 + 1)) 20 0 (nI (tkR π n D E).2)) (tX1 n D) rfl ?_ ?_
  · intro k i hk
    rw [u2_e]
    by_cases h9 : k = 20 ∧ i = 0
    · obtain ⟨rfl, rfl⟩ := h9
      rw [if_pos ⟨rfl, rfl⟩, k3]
    · rw [if_neg h9]
      unfold tX1
      by_cases h8 : k = 20
      · subst h8
        rw [flX_20 _ (fun q => h9 ⟨rfl, q⟩)]
      · rw [flX_k _ (by omega)]
  · have hz : sI (t + 1) (u2 D 0 0 (D 0 0 + 1)) := by
      obtain ⟨b1, b2, b3, b4, b5, b6⟩ := h1
      refine ⟨by rw [u2_s, h0, nI_1], ?_, ?_, ?_, ?_, ?_⟩ <;> intro q hq <;> rw [u2_k _ _ _ _ (by decide)]
      · exact b2 q hq
      · exact b3 q hq
      · exact b4 q hq
      · exact b5 q hq
      · exact b6 q hq
    unfold tX1
    exact hz.ext (fun k i hk => flX_k _ (by omega) n _)
theorem tk_c {k i : Nat} (a : k ≠ 15) (b : k ≠ 16) : tX2 n D k i = tX1 n D k i := by
  unfold tX2
  exact lp_k (fun D a' => b_dr2_k ⟨a, b⟩) 5 0 _
theorem tk_m (k2 : (tkR π n D E).2 ≤ 24) (k3 : tX1 n D 20 0 = nI (tkR π n D E).2) (k4 : fa2 (mR (t + 1)) (es (tkM π n D E) (tkR π n D E).1 (tkR π n D E).2) (mls (tX1 n D) (tkR π n D E).2)) : mI (t + 1) (tkM π n D E) (tkR π n D E).1 (tX2 n D) := by
  have e : mls (tX2 n D) (tkR π n D E).2 = mls (tX1 n D) (tkR π n D E).2 := mls_ext (fun q _ => tk_c (k := 21) (i := q) (by decide) (by decide))
  refine ⟨(tkR π n D E).2, k2, ?_, ?_⟩
  · exact (tk_c (k := 20) (i := 0) (by decide) (by decide)).trans k3
  · rw [e]
    exact k4
theorem tk_r (h4 : rI E D) (k5 : ∀ c, tkM π n D E 25 c = E 25 c) : rI (tkM π n D E) (tX2 n D) := by
  intro c hc
  have e : tX2 n D 19 c = D 19 c := by
    rw [tk_c (k := 19) (i := c) (by decide) (by decide)]
    unfold tX1
    rw [flX_k _ (by decide), u2_k _ _ _ _ (by decide)]
  rw [e, k5]
  exact h4 c hc
theorem tk_J (ht : t < 1000) (h1 : sI t D) (h2 : PI π τ) (hn : n ≤ 24) (hc : D 20 0 = nI n) (hf : fa2 (mR t) (es E π n) (mls D n)) (h4 : rI E D) : JR (t + 1) (tkR π n D E).1 τ (tk1 π n D E, tkM π n D E) (tX2 n D) := by
  obtain ⟨k1, k2, k3, k4, k5⟩ := tk_a ht h1.1 h2 hn hc hf
  have j := tk_b (π := π) (E := E) h1 k3
  have g1 : GR (t + 1) (tkM π n D E) (tkR π n D E).1 τ (tX2 n D) := And.intro j.2 (And.intro k1 (And.intro (tk_m k2 k3 k4) (tk_r h4 k5)))
  exact JR.mk j.1 g1
theorem st_tick (hA : ∀ i, ix (ad i) = i) (ht : t < 1000) (hG : GR t E π τ D) : stepOK dA ad ix t E π τ D 1 117 [] := by
  obtain ⟨h1, h2, ⟨n, hn, hc, hf⟩, h4⟩ := id hG
  obtain ⟨k1, k2, k3, k4, k5⟩ := tk_a ht h1.1 h2 hn hc hf
  have hJ2 := ts2_JR (s := 1) (by decide) (ts2_JR (s := 0) (by decide) (tk_J ht h1 h2 hn hc hf h4))
  have e1 : ts2 (tkR π n D E).1 (ts2 (tkR π n D E).1 (tk1 π n D E, tkM π n D E) 0) 1 = tk2 π n D E := by unfold tk2; rfl
  have e2 : bt2 (bt2 (tX2 n D) 0) 1 = tX3 n D := by unfold tX3; rfl
  rw [e1, e2] at hJ2
  refine ⟨D 0 0 + 1, (tk2 π n D E).1, (tk2 π n D E).2, (tkR π n D E).1, τ, tX3 n D, t + 1, Nat.le_refl _, fun Q => ?_, fun Q => ?_, hJ2.1, hJ2.2⟩
  · exact m1 hA hn hc h2.1 k1.1 k2
  · exact m117 hA hn hc
end STEPS4
