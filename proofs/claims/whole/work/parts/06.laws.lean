def mx (x y : Int32) : Int32 := if x < y then y else x
def mn (x y : Int32) : Int32 := if y < x then y else x
/-! laws of single instructions with side conditions -/
section PZH
variable {dA : Nat → ClassId} {d k pc : Nat} {ls st : List Value} {f : pz_F} {Q : Option Value → pz_F → Prop}
theorem pz_gp {a ci j idx : Nat} {v : Value} (D : decode (pz_b k) pc = .ok (.putfield idx, 3)) (hq : pz_fld (pz_kc k) idx = some (ci, j)) (h1 : pz_wr ci j = true) (h2 : narrow (pz_fty ci j) v = v) (h3 : fits (pz_fty ci j) v = true) : pz_R dA d k pc ls (v :: .ref a :: st) f Q = pz_o (pz_pf f a ci j v) (fun f' => pz_R dA d k (pc + 3) ls st f' Q) := by
  refine pz_gb (z := pz_pf f a ci j v) (pc' := fun _ => pc + 3) (ls' := fun _ => ls) (st' := fun _ => st) (f' := fun f' => f') (pz_so D ?_)
  simp only [pz_st1, pz_ex, pz_g1, pz_svr, hq, h1, h2, h3, and_self, if_true]
theorem pz_gg {a ci j idx : Nat} (D : decode (pz_b k) pc = .ok (.getfield idx, 3)) (hq : pz_fld (pz_kc k) idx = some (ci, j)) : pz_R dA d k pc ls (.ref a :: st) f Q = pz_o (pz_gf f a ci j) (fun v => pz_R dA d k (pc + 3) ls (v :: st) f Q) := by
  refine pz_gb (z := pz_gf f a ci j) (pc' := fun _ => pc + 3) (ls' := fun _ => ls) (st' := fun v => v :: st) (f' := fun _ => f) (pz_so D ?_)
  simp only [pz_st1, pz_ex, pz_g1, pz_sr, hq, if_true]
theorem pz_gcv {idx k' b : Nat} {As : List Value} (D : decode (pz_b k) pc = .ok (.invokevirtual idx, 3)) (hm : pz_mth (pz_kc k) idx = some k') (hv : pz_vi k' = true) (hp : pz_pk (pz_pt k') As = true) (hr : st.length ≤ 4) : pz_R dA (d + 1) k pc ls (As.reverse ++ .ref b :: st) f Q = pz_o (pz_gu f b (pz_ko k')) (fun _ => pz_C dA d k' (.ref b :: As) f (fun r f' => pz_R dA (d + 1) k (pc + 3) ls (r.toList ++ st) f' Q)) := by
  have hl := (pz_pk_all _ _ hp).1
  have h1 : (As.reverse ++ Value.ref b :: st).drop (pz_pt k').length = Value.ref b :: st := by
    rw [← hl, ← List.length_reverse]
    exact List.drop_left
  have h2 : ((As.reverse ++ Value.ref b :: st).take (pz_pt k').length).reverse = As := by
    rw [← hl, ← List.length_reverse, List.take_left, List.reverse_reverse]
  refine pz_gc (z := pz_gu f b (pz_ko k')) (pz_so D ?_)
  simp only [pz_st1, pz_cv, pz_g1, hm, h1, h2, pz_sr, hv, hp, hr, and_self, if_true]
theorem pz_gcs {idx k' : Nat} {As : List Value} (D : decode (pz_b k) pc = .ok (.invokestatic idx, 3)) (hm : pz_mth (pz_kc k) idx = some k') (hv : pz_vi k' = false) (hp : pz_pk (pz_pt k') As = true) (hr : st.length ≤ 4) : pz_R dA (d + 1) k pc ls (As.reverse ++ st) f Q = pz_C dA d k' As f (fun r f' => pz_R dA (d + 1) k (pc + 3) ls (r.toList ++ st) f' Q) := by
  have hl := (pz_pk_all _ _ hp).1
  have h1 : (As.reverse ++ st).drop (pz_pt k').length = st := by
    rw [← hl, ← List.length_reverse]
    exact List.drop_left
  have h2 : ((As.reverse ++ st).take (pz_pt k').length).reverse = As := by
    rw [← hl, ← List.length_reverse, List.take_left, List.reverse_reverse]
  refine pz_gs (pz_so D ?_)
  simp only [pz_st1, pz_cz, pz_g1, hm, h1, h2, hv, hp, hr, and_self, if_true, Option.isSome_some]
theorem pz_gmx {idx : Nat} {x y : Int32} (D : decode (pz_b k) pc = .ok (.invokestatic idx, 3)) (hm : pz_mth (pz_kc k) idx = none) (h1 : pz_mx (pz_kc k) idx = true) (hr : st.length ≤ 4) : pz_R dA d k pc ls (.int y :: .int x :: st) f Q = pz_R dA d k (pc + 3) ls (.int (if x < y then y else x) :: st) f Q := by
  refine pz_go (pz_so D ?_)
  simp only [pz_st1, pz_ex, pz_g1, hm, h1, pz_sii, hr, if_true, Option.isSome_none, Bool.false_eq_true, if_false, Option.map_some]
theorem pz_gmn {idx : Nat} {x y : Int32} (D : decode (pz_b k) pc = .ok (.invokestatic idx, 3)) (hm : pz_mth (pz_kc k) idx = none) (h1 : pz_mx (pz_kc k) idx = false) (h2 : pz_mn (pz_kc k) idx = true) (hr : st.length ≤ 4) : pz_R dA d k pc ls (.int y :: .int x :: st) f Q = pz_R dA d k (pc + 3) ls (.int (if y < x then y else x) :: st) f Q := by
  refine pz_go (pz_so D ?_)
  simp only [pz_st1, pz_ex, pz_g1, hm, h1, h2, pz_sii, hr, if_true, Option.isSome_none, Bool.false_eq_true, if_false, Option.map_some]
theorem pz_gil {i : Int32} {a : Nat} (D : decode (pz_b k) pc = .ok (.iaload, 1)) : pz_R dA d k pc ls (.int i :: .ref a :: st) f Q = pz_o (pz_il (dA 0) f a i) (fun x => pz_R dA d k (pc + 1) ls (.int x :: st) f Q) := by
  refine pz_gb (z := pz_il (dA 0) f a i) (pc' := fun _ => pc + 1) (ls' := fun _ => ls) (st' := fun x => .int x :: st) (f' := fun _ => f) (pz_so D ?_)
  simp only [pz_st1, pz_ex, pz_g1, pz_sir, if_true]
theorem pz_gzl {i : Int32} {a : Nat} (D : decode (pz_b k) pc = .ok (.baload, 1)) : pz_R dA d k pc ls (.int i :: .ref a :: st) f Q = pz_o (pz_il (dA 1) f a i) (fun x => pz_R dA d k (pc + 1) ls (.int x :: st) f Q) := by
  refine pz_gb (z := pz_il (dA 1) f a i) (pc' := fun _ => pc + 1) (ls' := fun _ => ls) (st' := fun x => .int x :: st) (f' := fun _ => f) (pz_so D ?_)
  simp only [pz_st1, pz_ex, pz_g1, pz_sir, if_true]
theorem pz_grl {i : Int32} {a : Nat} (D : decode (pz_b k) pc = .ok (.aaload, 1)) : pz_R dA d k pc ls (.int i :: .ref a :: st) f Q = pz_o (pz_rl dA f a i) (fun v => pz_R dA d k (pc + 1) ls (v :: st) f Q) := by
  refine pz_gb (z := pz_rl dA f a i) (pc' := fun _ => pc + 1) (ls' := fun _ => ls) (st' := fun v => v :: st) (f' := fun _ => f) (pz_so D ?_)
  simp only [pz_st1, pz_ex, pz_g1, pz_sir, if_true]
theorem pz_gis {x i : Int32} {a : Nat} (D : decode (pz_b k) pc = .ok (.iastore, 1)) : pz_R dA d k pc ls (.int x :: .int i :: .ref a :: st) f Q = pz_o (pz_is (dA 0) f a i x) (fun f' => pz_R dA d k (pc + 1) ls st f' Q) := by
  refine pz_gb (z := pz_is (dA 0) f a i x) (pc' := fun _ => pc + 1) (ls' := fun _ => ls) (st' := fun _ => st) (f' := fun f' => f') (pz_so D ?_)
  simp only [pz_st1, pz_ex, pz_g1, pz_siir, if_true]
theorem pz_gzs {x y i : Int32} {a : Nat} (D : decode (pz_b k) pc = .ok (.bastore, 1)) (hx : vp_nar .boolean x = y) : pz_R dA d k pc ls (.int x :: .int i :: .ref a :: st) f Q = pz_o (pz_is (dA 1) f a i y) (fun f' => pz_R dA d k (pc + 1) ls st f' Q) := by
  subst hx
  refine pz_gb (z := pz_is (dA 1) f a i (vp_nar .boolean x)) (pc' := fun _ => pc + 1) (ls' := fun _ => ls) (st' := fun _ => st) (f' := fun f' => f') (pz_so D ?_)
  simp only [pz_st1, pz_ex, pz_g1, pz_siir, if_true]
theorem pz_grs {i : Int32} {q a : Nat} (D : decode (pz_b k) pc = .ok (.aastore, 1)) : pz_R dA d k pc ls (.ref q :: .int i :: .ref a :: st) f Q = pz_o (pz_rs dA f a i q) (fun f' => pz_R dA d k (pc + 1) ls st f' Q) := by
  refine pz_gb (z := pz_rs dA f a i q) (pc' := fun _ => pc + 1) (ls' := fun _ => ls) (st' := fun _ => st) (f' := fun f' => f') (pz_so D ?_)
  simp only [pz_st1, pz_ex, pz_g1, pz_srir, if_true]
theorem pz_gre {x y : Int32} (D : decode (pz_b k) pc = .ok (.irem, 1)) (hy : ¬ y = 0) : pz_R dA d k pc ls (.int y :: .int x :: st) f Q = pz_R dA d k (pc + 1) ls (.int (x - x / y * y) :: st) f Q := by
  refine pz_go (pz_so D ?_)
  simp only [pz_st1, pz_ex, pz_g1, pz_sii, if_true, if_neg hy, Option.map_some]
theorem pz_gri {x : Int32} {ty : FieldType} (D : decode (pz_b k) pc = .ok (.ireturn, 1)) (hr : pz_ret k = some ty) (hn : narrow ty (.int x) = .int x) : pz_R dA d k pc ls [.int x] f Q = Q (some (.int x)) f := by
  refine pz_gr (pz_so D ?_)
  simp only [pz_st1, pz_ei, pz_g1, hr, hn, if_true]
theorem pz_gjn {x y : Int32} {off : Int} {t : Nat} (c : Jvm.ClassFile.Cond) (D : decode (pz_b k) pc = .ok (.if_icmp c off, 3)) (ht : (pc : Int) + off = (t : Int)) : pz_R dA d k pc ls (.int y :: .int x :: st) f Q = pz_br c x y (pz_R dA d k t ls st f Q) (pz_R dA d k (pc + 3) ls st f Q) := by
  have h0 : pz_st1 dA k pc 3 ls (.int y :: .int x :: st) f (.if_icmp c off) = Option.map .inl (pz_br c x y (some (t, ls, st, f)) (some (pc + 3, ls, st, f))) := by
    simp only [pz_st1, pz_ex, pz_g1, pz_sii, pz_j, ht, Int.toNat_natCast, if_true]
  have h1 := pz_so D h0
  cases c <;> (simp only [pz_br] at h1 ⊢; exact pz_gi h1)
theorem pz_gj1 {x : Int32} {off : Int} {t : Nat} (c : Jvm.ClassFile.Cond) (D : decode (pz_b k) pc = .ok (.ifCond c off, 3)) (ht : (pc : Int) + off = (t : Int)) : pz_R dA d k pc ls (.int x :: st) f Q = pz_br c x 0 (pz_R dA d k t ls st f Q) (pz_R dA d k (pc + 3) ls st f Q) := by
  have h0 : pz_st1 dA k pc 3 ls (.int x :: st) f (.ifCond c off) = Option.map .inl (pz_br c x 0 (some (t, ls, st, f)) (some (pc + 3, ls, st, f))) := by
    simp only [pz_st1, pz_ex, pz_g1, pz_si, pz_j, ht, Int.toNat_natCast, if_true]
  have h1 := pz_so D h0
  cases c <;> (simp only [pz_br] at h1 ⊢; exact pz_gi h1)
theorem pz_gtd {x : Int32} {dflt lo hi : Int} {offs : Array Int} {n t : Nat} (D : decode (pz_b k) pc = .ok (.tableswitch dflt lo hi offs, n)) (h : x.toInt < lo ∨ hi < x.toInt) (ht : (pc : Int) + dflt = (t : Int)) : pz_R dA d k pc ls (.int x :: st) f Q = pz_R dA d k t ls st f Q := by
  refine pz_go (pz_so D ?_)
  simp only [pz_st1, pz_ex, pz_si, pz_j, ht, Int.toNat_natCast, if_true, if_pos h, Option.map_some]
theorem pz_gti {x : Int32} {dflt lo hi off : Int} {offs : Array Int} {n t : Nat} (D : decode (pz_b k) pc = .ok (.tableswitch dflt lo hi offs, n)) (h : ¬ (x.toInt < lo ∨ hi < x.toInt)) (ho : offs[(x.toInt - lo).toNat]? = some off) (ht : (pc : Int) + off = (t : Int)) : pz_R dA d k pc ls (.int x :: st) f Q = pz_R dA d k t ls st f Q := by
  refine pz_go (pz_so D ?_)
  simp only [pz_st1, pz_ex, pz_si, pz_j, ht, Int.toNat_natCast, if_true, if_neg h, ho, Option.map_some]
end PZH
