/-! a turn of the law: one call of the class, one of the reference, their answers compared -/
section LAWT
variable {p : Program} {l : Launch} {e : Env} {s : State} {m : MethodId} {below : List Frame} {meth : Method} {c : Code} {H H0 : Heap} {locs : List Loc} {Q : State → Prop}
variable {b L : Nat} {xs : Nat → Int32} {dA dC : Nat → ClassId} {dI : Nat → Nat → Nat} {as : List Nat} {ad ix : Nat → Nat} {pc i : Nat} {ls : Array Slot}
variable {E : Nat → Nat → Int32} {π : Nat → Nat} {τ : Nat} {D : Nat → Nat → Int32} {t : Nat}
theorem law_X (B : Nat → Nat → Int32) : ∃ fs, cw dA ad B E π τ D 100 = some (.inr (6, fs)) := ⟨_, rfl⟩
theorem law_P (B : Nat → Nat → Int32) : ∃ fs, cw dA ad B E π τ D 0 = some (.inr (0, fs)) := ⟨_, rfl⟩
theorem law_turn (C : LC p s m c b L xs dA dC dI as ad ix H0) {n ic im kc km : Nat} {off : Int} (hd : ldT pc n ic im off = true) (hoff : ((pc + 1 + 5 * n + 3 + 1 + 5 * n + 3 : Nat) : Int) + off = ((482 : Nat) : Int)) (hn : n ≤ 3) (hi : i + 3 < L) (hkc : pz_kok kc) (hkm : pz_kok km) (v1 : pz_vi kc = true) (v2 : pz_vi km = true) (o1 : pz_ko kc = 0) (o2 : pz_ko km = 6)
    (l1 : Jvm.Cond.methodLink R_law ic (pz_y kc) ∈ pz_ws) (l2 : Jvm.Cond.methodLink R_law im (pz_y km) ∈ pz_ws) (p1 : pz_pk (pz_pt kc) (law_as xs i n) = true) (p2 : pz_pk (pz_pt km) (law_as xs i n) = true) (hst : stepOK dA ad ix t E π τ D kc km (law_as xs i n))
    (hl : lv_has ls 4 (law_lv b (ad 0) (ad 100) i)) (hW : pz_W dC dI as (pz_wf ad ix (cw dA ad D E π τ D)) H) (hS : va_S (fun q => q ∈ as) H0 H locs)
    (kk : ∀ (E1 : Nat → Nat → Int32) (π1 : Nat → Nat) (τ1 : Nat) (D1 : Nat → Nat → Int32) (t1 : Nat) (H1 : Heap) (locs1 : List Loc), t1 ≤ t + 1 → GR t1 E1 π1 τ1 D1 → pz_W dC dI as (pz_wf ad ix (cw dA ad D1 E1 π1 τ1 D1)) H1 → va_S (fun q => q ∈ as) H0 H1 locs1 → W p l e room_1 s m #[Value.ref b] below meth c H1 locs1 73 1028 Q (F0 m 482 ls [])) : W p l e room_1 s m #[Value.ref b] below meth c H locs 73 1028 Q (F0 m pc ls []) := by
  have C0 := C
  obtain ⟨hx, hb, -⟩ := C0
  unfold ldT at hd
  simp only [Bool.and_eq_true, decide_eq_true_eq] at hd
  obtain ⟨d0, d1, d2, d3, d4, d5, d6⟩ := hd
  obtain ⟨r, B1, E1, π1, τ1, D1, t1, h1, h2, h3, h4, h5⟩ := hst
  obtain ⟨f1, g1⟩ := law_P (dA := dA) (ad := ad) (E := E) (π := π) (τ := τ) (D := D) D
  obtain ⟨f2, g2⟩ := law_X (dA := dA) (ad := ad) (E := E1) (π := π1) (τ := τ1) (D := D) B1
  refine lv_aload_n hx hb d0 rfl (lv_at hl 2 rfl) ?_
  refine law_args C hl hS n hn d1 (by omega) ?_
  refine law_call C hkc v1 l1 d2 p1 (by rw [o1]; exact g1) h2 (Nat.zero_le _) hl.1 hW hS (fun H1 locs1 w1 s1 => ?_)
  refine lv_aload_n hx hb d3 rfl (lv_at hl 1 rfl) ?_
  refine law_args C hl s1 n hn d4 (by omega) ?_
  refine law_call C hkm v2 l2 d5 p2 (by rw [o2]; exact g2) h3 (by show 1 ≤ 4; decide) hl.1 w1 s1 (fun H2 locs2 w2 s2 => ?_)
  refine lv_icmp_eq (tgt := 482) hx hb d6 hoff (fun _ => ?_) (fun q => absurd rfl q)
  rw [cw_sh h4] at w2
  exact kk E1 π1 τ1 D1 t1 H2 locs2 h1 h5 w2 s2
set_option maxRecDepth 100000 in
theorem law_t_tick (C : LC p s m c b L xs dA dC dI as ad ix H0) (ht : t < 1000) (hG : GR t E π τ D) (hi : i + 3 < L) (hl : lv_has ls 4 (law_lv b (ad 0) (ad 100) i)) (hW : pz_W dC dI as (pz_wf ad ix (cw dA ad D E π τ D)) H) (hS : va_S (fun q => q ∈ as) H0 H locs)
    (kk : ∀ (E1 : Nat → Nat → Int32) (π1 : Nat → Nat) (τ1 : Nat) (D1 : Nat → Nat → Int32) (t1 : Nat) (H1 : Heap) (locs1 : List Loc), t1 ≤ t + 1 → GR t1 E1 π1 τ1 D1 → pz_W dC dI as (pz_wf ad ix (cw dA ad D1 E1 π1 τ1 D1)) H1 → va_S (fun q => q ∈ as) H0 H1 locs1 → W p l e room_1 s m #[Value.ref b] below meth c H1 locs1 73 1028 Q (F0 m 482 ls [])) : W p l e room_1 s m #[Value.ref b] below meth c H locs 73 1028 Q (F0 m 104 ls []) :=
  law_turn C (n := 0) (ic := 13) (im := 17) (kc := 1) (km := 117) (off := 370) (by decide +kernel) (by decide) (by decide) hi (pz_kall 1 (by decide)) (pz_kall 117 (by decide)) (by decide +kernel) (by decide +kernel) (by decide +kernel) (by decide +kernel) (pz_at 317 rfl rfl) (pz_at 828 rfl rfl) rfl rfl (st_tick C.2.2.2.2.2.2.1 ht hG ) hl hW hS kk
set_option maxRecDepth 100000 in
theorem law_t_ask (C : LC p s m c b L xs dA dC dI as ad ix H0) (ht : t < 1000) (hG : GR t E π τ D) (hi : i + 3 < L) (hl : lv_has ls 4 (law_lv b (ad 0) (ad 100) i)) (hW : pz_W dC dI as (pz_wf ad ix (cw dA ad D E π τ D)) H) (hS : va_S (fun q => q ∈ as) H0 H locs)
    (kk : ∀ (E1 : Nat → Nat → Int32) (π1 : Nat → Nat) (τ1 : Nat) (D1 : Nat → Nat → Int32) (t1 : Nat) (H1 : Heap) (locs1 : List Loc), t1 ≤ t + 1 → GR t1 E1 π1 τ1 D1 → pz_W dC dI as (pz_wf ad ix (cw dA ad D1 E1 π1 τ1 D1)) H1 → va_S (fun q => q ∈ as) H0 H1 locs1 → W p l e room_1 s m #[Value.ref b] below meth c H1 locs1 73 1028 Q (F0 m 482 ls [])) : W p l e room_1 s m #[Value.ref b] below meth c H locs 73 1028 Q (F0 m 117 ls []) :=
  law_turn C (n := 2) (ic := 18) (im := 22) (kc := 2) (km := 118) (off := 337) (by decide +kernel) (by decide) (by decide) hi (pz_kall 2 (by decide)) (pz_kall 118 (by decide)) (by decide +kernel) (by decide +kernel) (by decide +kernel) (by decide +kernel) (pz_at 393 rfl rfl) (pz_at 840 rfl rfl) rfl rfl (st_ask C.2.2.2.2.2.2.1 ht hG (xs (i + (0 + 1))) (xs (i + (1 + 1)))) hl hW hS kk
set_option maxRecDepth 100000 in
theorem law_t_release (C : LC p s m c b L xs dA dC dI as ad ix H0) (ht : t < 1000) (hG : GR t E π τ D) (hi : i + 3 < L) (hl : lv_has ls 4 (law_lv b (ad 0) (ad 100) i)) (hW : pz_W dC dI as (pz_wf ad ix (cw dA ad D E π τ D)) H) (hS : va_S (fun q => q ∈ as) H0 H locs)
    (kk : ∀ (E1 : Nat → Nat → Int32) (π1 : Nat → Nat) (τ1 : Nat) (D1 : Nat → Nat → Int32) (t1 : Nat) (H1 : Heap) (locs1 : List Loc), t1 ≤ t + 1 → GR t1 E1 π1 τ1 D1 → pz_W dC dI as (pz_wf ad ix (cw dA ad D1 E1 π1 τ1 D1)) H1 → va_S (fun q => q ∈ as) H0 H1 locs1 → W p l e room_1 s m #[Value.ref b] below meth c H1 locs1 73 1028 Q (F0 m 482 ls [])) : W p l e room_1 s m #[Value.ref b] below meth c H locs 73 1028 Q (F0 m 150 ls []) :=
  law_turn C (n := 2) (ic := 23) (im := 26) (kc := 3) (km := 119) (off := 304) (by decide +kernel) (by decide) (by decide) hi (pz_kall 3 (by decide)) (pz_kall 119 (by decide)) (by decide +kernel) (by decide +kernel) (by decide +kernel) (by decide +kernel) (pz_at 411 rfl rfl) (pz_at 850 rfl rfl) rfl rfl (st_release C.2.2.2.2.2.2.1 hG (xs (i + (0 + 1))) (xs (i + (1 + 1)))) hl hW hS kk
set_option maxRecDepth 100000 in
theorem law_t_deliver (C : LC p s m c b L xs dA dC dI as ad ix H0) (ht : t < 1000) (hG : GR t E π τ D) (hi : i + 3 < L) (hl : lv_has ls 4 (law_lv b (ad 0) (ad 100) i)) (hW : pz_W dC dI as (pz_wf ad ix (cw dA ad D E π τ D)) H) (hS : va_S (fun q => q ∈ as) H0 H locs)
    (kk : ∀ (E1 : Nat → Nat → Int32) (π1 : Nat → Nat) (τ1 : Nat) (D1 : Nat → Nat → Int32) (t1 : Nat) (H1 : Heap) (locs1 : List Loc), t1 ≤ t + 1 → GR t1 E1 π1 τ1 D1 → pz_W dC dI as (pz_wf ad ix (cw dA ad D1 E1 π1 τ1 D1)) H1 → va_S (fun q => q ∈ as) H0 H1 locs1 → W p l e room_1 s m #[Value.ref b] below meth c H1 locs1 73 1028 Q (F0 m 482 ls [])) : W p l e room_1 s m #[Value.ref b] below meth c H locs 73 1028 Q (F0 m 183 ls []) :=
  law_turn C (n := 1) (ic := 27) (im := 31) (kc := 4) (km := 114) (off := 281) (by decide +kernel) (by decide) (by decide) hi (pz_kall 4 (by decide)) (pz_kall 114 (by decide)) (by decide +kernel) (by decide +kernel) (by decide +kernel) (by decide +kernel) (pz_at 416 rfl rfl) (pz_at 726 rfl rfl) rfl rfl (st_deliver C.2.2.2.2.2.2.1 hG (xs (i + (0 + 1)))) hl hW hS kk
set_option maxRecDepth 100000 in
theorem law_t_lose (C : LC p s m c b L xs dA dC dI as ad ix H0) (ht : t < 1000) (hG : GR t E π τ D) (hi : i + 3 < L) (hl : lv_has ls 4 (law_lv b (ad 0) (ad 100) i)) (hW : pz_W dC dI as (pz_wf ad ix (cw dA ad D E π τ D)) H) (hS : va_S (fun q => q ∈ as) H0 H locs)
    (kk : ∀ (E1 : Nat → Nat → Int32) (π1 : Nat → Nat) (τ1 : Nat) (D1 : Nat → Nat → Int32) (t1 : Nat) (H1 : Heap) (locs1 : List Loc), t1 ≤ t + 1 → GR t1 E1 π1 τ1 D1 → pz_W dC dI as (pz_wf ad ix (cw dA ad D1 E1 π1 τ1 D1)) H1 → va_S (fun q => q ∈ as) H0 H1 locs1 → W p l e room_1 s m #[Value.ref b] below meth c H1 locs1 73 1028 Q (F0 m 482 ls [])) : W p l e room_1 s m #[Value.ref b] below meth c H locs 73 1028 Q (F0 m 206 ls []) :=
  law_turn C (n := 1) (ic := 32) (im := 35) (kc := 5) (km := 115) (off := 258) (by decide +kernel) (by decide) (by decide) hi (pz_kall 5 (by decide)) (pz_kall 115 (by decide)) (by decide +kernel) (by decide +kernel) (by decide +kernel) (by decide +kernel) (pz_at 569 rfl rfl) (pz_at 824 rfl rfl) rfl rfl (st_lose C.2.2.2.2.2.2.1 hG (xs (i + (0 + 1)))) hl hW hS kk
set_option maxRecDepth 100000 in
theorem law_t_stop (C : LC p s m c b L xs dA dC dI as ad ix H0) (ht : t < 1000) (hG : GR t E π τ D) (hi : i + 3 < L) (hl : lv_has ls 4 (law_lv b (ad 0) (ad 100) i)) (hW : pz_W dC dI as (pz_wf ad ix (cw dA ad D E π τ D)) H) (hS : va_S (fun q => q ∈ as) H0 H locs)
    (kk : ∀ (E1 : Nat → Nat → Int32) (π1 : Nat → Nat) (τ1 : Nat) (D1 : Nat → Nat → Int32) (t1 : Nat) (H1 : Heap) (locs1 : List Loc), t1 ≤ t + 1 → GR t1 E1 π1 τ1 D1 → pz_W dC dI as (pz_wf ad ix (cw dA ad D1 E1 π1 τ1 D1)) H1 → va_S (fun q => q ∈ as) H0 H1 locs1 → W p l e room_1 s m #[Value.ref b] below meth c H1 locs1 73 1028 Q (F0 m 482 ls [])) : W p l e room_1 s m #[Value.ref b] below meth c H locs 73 1028 Q (F0 m 229 ls []) :=
  law_turn C (n := 1) (ic := 36) (im := 39) (kc := 6) (km := 120) (off := 235) (by decide +kernel) (by decide) (by decide) hi (pz_kall 6 (by decide)) (pz_kall 120 (by decide)) (by decide +kernel) (by decide +kernel) (by decide +kernel) (by decide +kernel) (pz_at 573 rfl rfl) (pz_at 854 rfl rfl) rfl rfl (st_stop C.2.2.2.2.2.2.1 hG (xs (i + (0 + 1)))) hl hW hS kk
set_option maxRecDepth 100000 in
theorem law_t_start (C : LC p s m c b L xs dA dC dI as ad ix H0) (ht : t < 1000) (hG : GR t E π τ D) (hi : i + 3 < L) (hl : lv_has ls 4 (law_lv b (ad 0) (ad 100) i)) (hW : pz_W dC dI as (pz_wf ad ix (cw dA ad D E π τ D)) H) (hS : va_S (fun q => q ∈ as) H0 H locs)
    (kk : ∀ (E1 : Nat → Nat → Int32) (π1 : Nat → Nat) (τ1 : Nat) (D1 : Nat → Nat → Int32) (t1 : Nat) (H1 : Heap) (locs1 : List Loc), t1 ≤ t + 1 → GR t1 E1 π1 τ1 D1 → pz_W dC dI as (pz_wf ad ix (cw dA ad D1 E1 π1 τ1 D1)) H1 → va_S (fun q => q ∈ as) H0 H1 locs1 → W p l e room_1 s m #[Value.ref b] below meth c H1 locs1 73 1028 Q (F0 m 482 ls [])) : W p l e room_1 s m #[Value.ref b] below meth c H locs 73 1028 Q (F0 m 252 ls []) :=
  law_turn C (n := 1) (ic := 40) (im := 43) (kc := 7) (km := 121) (off := 212) (by decide +kernel) (by decide) (by decide) hi (pz_kall 7 (by decide)) (pz_kall 121 (by decide)) (by decide +kernel) (by decide +kernel) (by decide +kernel) (by decide +kernel) (pz_at 585 rfl rfl) (pz_at 858 rfl rfl) rfl rfl (st_start C.2.2.2.2.2.2.1 hG (xs (i + (0 + 1)))) hl hW hS kk
set_option maxRecDepth 100000 in
theorem law_t_alone (C : LC p s m c b L xs dA dC dI as ad ix H0) (ht : t < 1000) (hG : GR t E π τ D) (hi : i + 3 < L) (hl : lv_has ls 4 (law_lv b (ad 0) (ad 100) i)) (hW : pz_W dC dI as (pz_wf ad ix (cw dA ad D E π τ D)) H) (hS : va_S (fun q => q ∈ as) H0 H locs)
    (kk : ∀ (E1 : Nat → Nat → Int32) (π1 : Nat → Nat) (τ1 : Nat) (D1 : Nat → Nat → Int32) (t1 : Nat) (H1 : Heap) (locs1 : List Loc), t1 ≤ t + 1 → GR t1 E1 π1 τ1 D1 → pz_W dC dI as (pz_wf ad ix (cw dA ad D1 E1 π1 τ1 D1)) H1 → va_S (fun q => q ∈ as) H0 H1 locs1 → W p l e room_1 s m #[Value.ref b] below meth c H1 locs1 73 1028 Q (F0 m 482 ls [])) : W p l e room_1 s m #[Value.ref b] below meth c H locs 73 1028 Q (F0 m 275 ls []) :=
  law_turn C (n := 1) (ic := 44) (im := 47) (kc := 8) (km := 122) (off := 189) (by decide +kernel) (by decide) (by decide) hi (pz_kall 8 (by decide)) (pz_kall 122 (by decide)) (by decide +kernel) (by decide +kernel) (by decide +kernel) (by decide +kernel) (pz_at 593 rfl rfl) (pz_at 862 rfl rfl) rfl rfl (st_alone C.2.2.2.2.2.2.1 hG (xs (i + (0 + 1)))) hl hW hS kk
theorem law_bb (x : Int32) : (if x = 0 then (0 : Int32) else 1) = 0 ∨ (if x = 0 then (0 : Int32) else 1) = 1 := by
  by_cases h : x = 0
  · rw [if_pos h]; exact Or.inl rfl
  · rw [if_neg h]; exact Or.inr rfl
theorem law_d298 : (decide (decode code 298 = .ok (.aload_n 1, 1)) && (ldN 299 1 && (ldB 304 && (decide (decode code 312 = .ok (.invokevirtual 48, 3)) && (decide (decode code 315 = .ok (.aload_n 2, 1)) && (ldN 316 1 && (ldB 321 && (decide (decode code 329 = .ok (.invokevirtual 52, 3)) && decide (decode code 332 = .ok (.if_icmp .eq 150, 3)))))))))) = true := by decide +kernel
set_option maxRecDepth 100000 in
theorem law_t_link (C : LC p s m c b L xs dA dC dI as ad ix H0) (ht : t < 1000) (hG : GR t E π τ D) (hi : i + 3 < L) (hl : lv_has ls 4 (law_lv b (ad 0) (ad 100) i)) (hW : pz_W dC dI as (pz_wf ad ix (cw dA ad D E π τ D)) H) (hS : va_S (fun q => q ∈ as) H0 H locs)
    (kk : ∀ (E1 : Nat → Nat → Int32) (π1 : Nat → Nat) (τ1 : Nat) (D1 : Nat → Nat → Int32) (t1 : Nat) (H1 : Heap) (locs1 : List Loc), t1 ≤ t + 1 → GR t1 E1 π1 τ1 D1 → pz_W dC dI as (pz_wf ad ix (cw dA ad D1 E1 π1 τ1 D1)) H1 → va_S (fun q => q ∈ as) H0 H1 locs1 → W p l e room_1 s m #[Value.ref b] below meth c H1 locs1 73 1028 Q (F0 m 482 ls [])) : W p l e room_1 s m #[Value.ref b] below meth c H locs 73 1028 Q (F0 m 298 ls []) := by
  have C0 := C
  obtain ⟨hx, hb, -⟩ := C0
  have hd := law_d298
  simp only [Bool.and_eq_true, decide_eq_true_eq] at hd
  obtain ⟨d0, d1, b1, d2, d3, d4, b2, d5, d6⟩ := hd
  obtain ⟨r, B1, E1, π1, τ1, D1, t1, h1, h2, h3, h4, h5⟩ := st_link (dA := dA) C.2.2.2.2.2.2.1 hG _ (law_bb (xs (i + (0 + 1))))
  obtain ⟨f1, g1⟩ := law_P (dA := dA) (ad := ad) (E := E) (π := π) (τ := τ) (D := D) D
  obtain ⟨f2, g2⟩ := law_X (dA := dA) (ad := ad) (E := E1) (π := π1) (τ := τ1) (D := D) B1
  refine lv_aload_n hx hb d0 rfl (lv_at hl 2 rfl) ?_
  refine law_args C hl hS 1 (by decide) d1 (by omega) ?_
  refine law_bool hx hb b1 ?_
  refine law_call C (As := [.int (if xs (i + (0 + 1)) = 0 then 0 else 1)]) (k := 9) (o := 0) (pz_kall 9 (by decide)) (by decide +kernel) (pz_at 601 rfl rfl) d2 rfl (by rw [g1]; rfl) h2 (Nat.zero_le _) hl.1 hW hS (fun H1 locs1 w1 s1 => ?_)
  refine lv_aload_n hx hb d3 rfl (lv_at hl 1 rfl) ?_
  refine law_args C hl s1 1 (by decide) d4 (by omega) ?_
  refine law_bool hx hb b2 ?_
  refine law_call C (As := [.int (if xs (i + (0 + 1)) = 0 then 0 else 1)]) (k := 123) (o := 100) (pz_kall 123 (by decide)) (by decide +kernel) (pz_at 866 rfl rfl) d5 rfl (by rw [g2]; rfl) h3 (by show 1 ≤ 4; decide) hl.1 w1 s1 (fun H2 locs2 w2 s2 => ?_)
  refine lv_icmp_eq (tgt := 482) hx hb d6 (by decide) (fun _ => ?_) (fun q => absurd rfl q)
  rw [cw_sh h4] at w2
  exact kk E1 π1 τ1 D1 t1 H2 locs2 h1 h5 w2 s2
set_option maxRecDepth 100000 in
theorem law_t_state (C : LC p s m c b L xs dA dC dI as ad ix H0) (ht : t < 1000) (hG : GR t E π τ D) (hi : i + 3 < L) (hl : lv_has ls 4 (law_lv b (ad 0) (ad 100) i)) (hW : pz_W dC dI as (pz_wf ad ix (cw dA ad D E π τ D)) H) (hS : va_S (fun q => q ∈ as) H0 H locs)
    (kk : ∀ (E1 : Nat → Nat → Int32) (π1 : Nat → Nat) (τ1 : Nat) (D1 : Nat → Nat → Int32) (t1 : Nat) (H1 : Heap) (locs1 : List Loc), t1 ≤ t + 1 → GR t1 E1 π1 τ1 D1 → pz_W dC dI as (pz_wf ad ix (cw dA ad D1 E1 π1 τ1 D1)) H1 → va_S (fun q => q ∈ as) H0 H1 locs1 → W p l e room_1 s m #[Value.ref b] below meth c H1 locs1 73 1028 Q (F0 m 482 ls [])) : W p l e room_1 s m #[Value.ref b] below meth c H locs 73 1028 Q (F0 m 337 ls []) :=
  law_turn C (n := 1) (ic := 53) (im := 57) (kc := 10) (km := 124) (off := 127) (by decide +kernel) (by decide) (by decide) hi (pz_kall 10 (by decide)) (pz_kall 124 (by decide)) (by decide +kernel) (by decide +kernel) (by decide +kernel) (by decide +kernel) (pz_at 605 rfl rfl) (pz_at 870 rfl rfl) rfl rfl (st_state C.2.2.2.2.2.2.1 hG (xs (i + (0 + 1)))) hl hW hS kk
set_option maxRecDepth 100000 in
theorem law_t_entry (C : LC p s m c b L xs dA dC dI as ad ix H0) (ht : t < 1000) (hG : GR t E π τ D) (hi : i + 3 < L) (hl : lv_has ls 4 (law_lv b (ad 0) (ad 100) i)) (hW : pz_W dC dI as (pz_wf ad ix (cw dA ad D E π τ D)) H) (hS : va_S (fun q => q ∈ as) H0 H locs)
    (kk : ∀ (E1 : Nat → Nat → Int32) (π1 : Nat → Nat) (τ1 : Nat) (D1 : Nat → Nat → Int32) (t1 : Nat) (H1 : Heap) (locs1 : List Loc), t1 ≤ t + 1 → GR t1 E1 π1 τ1 D1 → pz_W dC dI as (pz_wf ad ix (cw dA ad D1 E1 π1 τ1 D1)) H1 → va_S (fun q => q ∈ as) H0 H1 locs1 → W p l e room_1 s m #[Value.ref b] below meth c H1 locs1 73 1028 Q (F0 m 482 ls [])) : W p l e room_1 s m #[Value.ref b] below meth c H locs 73 1028 Q (F0 m 360 ls []) :=
  law_turn C (n := 3) (ic := 58) (im := 62) (kc := 11) (km := 125) (off := 84) (by decide +kernel) (by decide) (by decide) hi (pz_kall 11 (by decide)) (pz_kall 125 (by decide)) (by decide +kernel) (by decide +kernel) (by decide +kernel) (by decide +kernel) (pz_at 609 rfl rfl) (pz_at 874 rfl rfl) rfl rfl (st_entry C.2.2.2.2.2.2.1 hG (xs (i + (0 + 1))) (xs (i + (1 + 1))) (xs (i + (2 + 1)))) hl hW hS kk
set_option maxRecDepth 100000 in
theorem law_t_client (C : LC p s m c b L xs dA dC dI as ad ix H0) (ht : t < 1000) (hG : GR t E π τ D) (hi : i + 3 < L) (hl : lv_has ls 4 (law_lv b (ad 0) (ad 100) i)) (hW : pz_W dC dI as (pz_wf ad ix (cw dA ad D E π τ D)) H) (hS : va_S (fun q => q ∈ as) H0 H locs)
    (kk : ∀ (E1 : Nat → Nat → Int32) (π1 : Nat → Nat) (τ1 : Nat) (D1 : Nat → Nat → Int32) (t1 : Nat) (H1 : Heap) (locs1 : List Loc), t1 ≤ t + 1 → GR t1 E1 π1 τ1 D1 → pz_W dC dI as (pz_wf ad ix (cw dA ad D1 E1 π1 τ1 D1)) H1 → va_S (fun q => q ∈ as) H0 H1 locs1 → W p l e room_1 s m #[Value.ref b] below meth c H1 locs1 73 1028 Q (F0 m 482 ls [])) : W p l e room_1 s m #[Value.ref b] below meth c H locs 73 1028 Q (F0 m 403 ls []) :=
  law_turn C (n := 2) (ic := 63) (im := 67) (kc := 12) (km := 126) (off := 51) (by decide +kernel) (by decide) (by decide) hi (pz_kall 12 (by decide)) (pz_kall 126 (by decide)) (by decide +kernel) (by decide +kernel) (by decide +kernel) (by decide +kernel) (pz_at 617 rfl rfl) (pz_at 878 rfl rfl) rfl rfl (st_client C.2.2.2.2.2.2.1 hG (xs (i + (0 + 1))) (xs (i + (1 + 1)))) hl hW hS kk
set_option maxRecDepth 100000 in
theorem law_t_messages (C : LC p s m c b L xs dA dC dI as ad ix H0) (ht : t < 1000) (hG : GR t E π τ D) (hi : i + 3 < L) (hl : lv_has ls 4 (law_lv b (ad 0) (ad 100) i)) (hW : pz_W dC dI as (pz_wf ad ix (cw dA ad D E π τ D)) H) (hS : va_S (fun q => q ∈ as) H0 H locs)
    (kk : ∀ (E1 : Nat → Nat → Int32) (π1 : Nat → Nat) (τ1 : Nat) (D1 : Nat → Nat → Int32) (t1 : Nat) (H1 : Heap) (locs1 : List Loc), t1 ≤ t + 1 → GR t1 E1 π1 τ1 D1 → pz_W dC dI as (pz_wf ad ix (cw dA ad D1 E1 π1 τ1 D1)) H1 → va_S (fun q => q ∈ as) H0 H1 locs1 → W p l e room_1 s m #[Value.ref b] below meth c H1 locs1 73 1028 Q (F0 m 482 ls [])) : W p l e room_1 s m #[Value.ref b] below meth c H locs 73 1028 Q (F0 m 436 ls []) :=
  law_turn C (n := 0) (ic := 68) (im := 71) (kc := 13) (km := 127) (off := 38) (by decide +kernel) (by decide) (by decide) hi (pz_kall 13 (by decide)) (pz_kall 127 (by decide)) (by decide +kernel) (by decide +kernel) (by decide +kernel) (by decide +kernel) (pz_at 625 rfl rfl) (pz_at 882 rfl rfl) rfl rfl (st_messages C.2.2.2.2.2.2.1 hG ) hl hW hS kk
set_option maxRecDepth 100000 in
theorem law_t_message (C : LC p s m c b L xs dA dC dI as ad ix H0) (ht : t < 1000) (hG : GR t E π τ D) (hi : i + 3 < L) (hl : lv_has ls 4 (law_lv b (ad 0) (ad 100) i)) (hW : pz_W dC dI as (pz_wf ad ix (cw dA ad D E π τ D)) H) (hS : va_S (fun q => q ∈ as) H0 H locs)
    (kk : ∀ (E1 : Nat → Nat → Int32) (π1 : Nat → Nat) (τ1 : Nat) (D1 : Nat → Nat → Int32) (t1 : Nat) (H1 : Heap) (locs1 : List Loc), t1 ≤ t + 1 → GR t1 E1 π1 τ1 D1 → pz_W dC dI as (pz_wf ad ix (cw dA ad D1 E1 π1 τ1 D1)) H1 → va_S (fun q => q ∈ as) H0 H1 locs1 → W p l e room_1 s m #[Value.ref b] below meth c H1 locs1 73 1028 Q (F0 m 482 ls [])) : W p l e room_1 s m #[Value.ref b] below meth c H locs 73 1028 Q (F0 m 449 ls []) :=
  law_turn C (n := 2) (ic := 72) (im := 75) (kc := 14) (km := 128) (off := 5) (by decide +kernel) (by decide) (by decide) hi (pz_kall 14 (by decide)) (pz_kall 128 (by decide)) (by decide +kernel) (by decide +kernel) (by decide +kernel) (by decide +kernel) (pz_at 629 rfl rfl) (pz_at 886 rfl rfl) rfl rfl (st_message C.2.2.2.2.2.2.1 hG (xs (i + (0 + 1))) (xs (i + (1 + 1)))) hl hW hS kk
end LAWT
