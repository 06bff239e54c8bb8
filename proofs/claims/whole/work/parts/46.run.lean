/-! a step of a constructor, its run -/
def ci_zero (ci : Nat) : List Value := (List.range (ci_nn ci)).map (fun j => defaultValue (pz_fty ci j))
def ci_gf (cs : List ci_E) (a ci j : Nat) : Option Value := match cs[a]? with
  | some (.inl o) => if o.1 = ci then o.2[j]? else none
  | _ => none
def ci_pf (cs : List ci_E) (a ci j : Nat) (v : Value) : Option (List ci_E) := match cs[a]? with
  | some (.inl o) => if o.1 = ci ∧ j < o.2.length then some (cs.set a (.inl (ci, o.2.set j v))) else none
  | _ => none
def ci_is (cs : List ci_E) (a : Nat) (i x : Int32) : Option (List ci_E) := match cs[a]? with
  | some (.inr (t, .inl xs)) => if t = 0 ∧ ¬ (i < 0 ∨ xs.length ≤ i.toNatClampNeg) then some (cs.set a (.inr (0, .inl (xs.set i.toNatClampNeg x)))) else none
  | _ => none
def ci_rs (cs : List ci_E) (a : Nat) (i : Int32) (q : Nat) : Option (List ci_E) := match cs[a]?, cs[q]? with
  | some (.inr (t, .inr rs)), some (.inl o) => if (pz_ct o.1 < 6 ∧ t = pz_ct o.1) ∧ ¬ (i < 0 ∨ rs.length ≤ i.toNatClampNeg) then some (cs.set a (.inr (t, .inr (rs.set i.toNatClampNeg (some q))))) else none
  | _, _ => none
/-- may this value go into a field of that type -/
def ci_fit (ty : FieldType) (v : Value) : Bool := match ty, v with
  | .int, .int _ => true
  | .boolean, .int x => decide (x = 0) || decide (x = 1)
  | .object _, .ref _ => true
  | .array _, .ref _ => true
  | _, _ => false
def ci_ok (cs : List ci_E) (ls st : List Value) : Bool := cs.all (ci_okc cs.length) && ls.all (ci_okv cs.length) && st.all (ci_okv cs.length)
def ci_la {β : Type} (ls : List Value) (i : Nat) (K : Nat → Option β) : Option β := match ls[i]? with
  | some (.ref a) => K a
  | _ => none
abbrev ci_P : Type := Nat × List Value × List Value × List ci_E × Nat × Nat
abbrev ci_A : Type := ci_P ⊕ (Nat × List Value × List Value) ⊕ Unit
def ci_ty (a : ArrayType) : Option Nat := match a with
  | .int => some 0
  | .boolean => some 1
  | _ => none
/-- an instruction's effect: place, locals, stack, cells, and how many cells and slots are new -/
def ci_ex (k pc n : Nat) (ls st : List Value) (cs : List ci_E) (i : Instr) : Option ci_P := match i with
  | .iconst c => pz_g1 n 1 (some (pc + 1, ls, .int (Int32.ofInt c) :: st, cs, 0, 0))
  | .bipush c => pz_g1 n 2 (some (pc + 2, ls, .int (Int8.ofInt c).toInt32 :: st, cs, 0, 0))
  | .sipush c => pz_g1 n 3 (some (pc + 3, ls, .int (Int16.ofInt c).toInt32 :: st, cs, 0, 0))
  | .iload_n j => pz_g1 n 1 (pz_li ls j.val fun x => some (pc + 1, ls, .int x :: st, cs, 0, 0))
  | .aload_n j => pz_g1 n 1 (ci_la ls j.val fun a => some (pc + 1, ls, .ref a :: st, cs, 0, 0))
  | .istore_n j => pz_g1 n 1 (pz_si st fun x r => if j.val < ls.length then some (pc + 1, ls.set j.val (.int x), r, cs, 0, 0) else none)
  | .iinc j c => pz_g1 n 3 (pz_li ls j fun x => some (pc + 3, ls.set j (.int (x + Int32.ofInt c)), st, cs, 0, 0))
  | .if_icmp .ge off => pz_g1 n 3 (pz_sii st fun x y r => pz_j pc off fun t => if y ≤ x then some (t, ls, r, cs, 0, 0) else some (pc + 3, ls, r, cs, 0, 0))
  | .goto off => pz_g1 n 3 (pz_j pc off fun t => some (t, ls, st, cs, 0, 0))
  | .dup => pz_g1 n 1 (pz_sr st fun a r => some (pc + 1, ls, .ref a :: .ref a :: r, cs, 0, 0))
  | .getfield idx => pz_g1 n 3 (pz_sr st fun a r => match pz_fld (pz_kc k) idx with
    | some q => (ci_gf cs a q.1 q.2).bind fun v => some (pc + 3, ls, v :: r, cs, 0, 0)
    | none => none)
  | .putfield idx => pz_g1 n 3 (pz_svr st fun v a r => match pz_fld (pz_kc k) idx with
    | some q => if (pz_wr q.1 q.2 = true ∨ q.1 = pz_kc k) ∧ ci_fit (pz_fty q.1 q.2) v = true then (ci_pf cs a q.1 q.2 v).bind fun cs' => some (pc + 3, ls, r, cs', 0, 0) else none
    | none => none)
  | .iastore => pz_g1 n 1 (pz_siir st fun x i a r => (ci_is cs a i x).bind fun cs' => some (pc + 1, ls, r, cs', 0, 0))
  | .aastore => pz_g1 n 1 (pz_srir st fun q i a r => (ci_rs cs a i q).bind fun cs' => some (pc + 1, ls, r, cs', 0, 0))
  | .new idx => pz_g1 n 3 (match ci_nw (pz_kc k) idx with
    | some ci => if ci_ok cs ls st = true then some (pc + 3, ls, .ref cs.length :: st, cs ++ [.inl (ci, ci_zero ci)], 1, ci_nn ci) else none
    | none => none)
  | .anewarray idx => pz_g1 n 3 (pz_si st fun x r => match ci_nw (pz_kc k) idx with
    | some ci => if ci_ok cs ls r = true ∧ pz_ct ci < 6 ∧ ¬ x < 0 ∧ x.toNatClampNeg ≤ 1000 then some (pc + 3, ls, .ref cs.length :: r, cs ++ [.inr (pz_ct ci, .inr (List.replicate x.toNatClampNeg none))], 1, x.toNatClampNeg) else none
    | none => none)
  | .newarray a => pz_g1 n 2 (pz_si st fun x r => match ci_ty a with
    | some t => if ci_ok cs ls r = true ∧ ¬ x < 0 ∧ x.toNatClampNeg ≤ 1000 then some (pc + 2, ls, .ref cs.length :: r, cs ++ [.inr (t, .inl (List.replicate x.toNatClampNeg 0))], 1, x.toNatClampNeg) else none
    | none => none)
  | .invokespecial idx => pz_g1 n 3 (if ci_ob (pz_kc k) idx = true then pz_sr st fun _ r => if r.length ≤ 2 then some (pc + 3, ls, r, cs, 0, 0) else none else none)
  | _ => none
def ci_st1 (k pc n : Nat) (ls st : List Value) (cs : List ci_E) (i : Instr) : Option ci_A := match i with
  | .invokespecial idx => match ci_mth (pz_kc k) idx with
    | some k' => pz_g1 n 3 (pz_sr (st.drop (pz_pt k').length) fun b r => if r.length ≤ 4 ∧ ci_ok cs ls r = true ∧ pz_pk (pz_pt k') (st.take (pz_pt k').length).reverse = true then some (.inr (.inl (k', .ref b :: (st.take (pz_pt k').length).reverse, r))) else none)
    | none => (ci_ex k pc n ls st cs (.invokespecial idx)).map .inl
  | .return_ => pz_g1 n 1 (match st with
    | [] => some (.inr (.inr ()))
    | _ => none)
  | i => (ci_ex k pc n ls st cs i).map .inl
def ci_stp (k pc : Nat) (ls st : List Value) (cs : List ci_E) : Option ci_A := match decode (pz_b k) pc with
  | .error _ => none
  | .ok q => ci_st1 k pc q.2 ls st cs q.1
/-- a run: what the cells are at its end, how many cells and slots are new -/
def ci_run : Nat → Nat → Nat → Nat → List Value → List Value → List ci_E → Option (List ci_E × Nat × Nat)
  | 0, _, _, _, _, _, _ => none
  | n + 1, d, k, pc, ls, st, cs => match ci_stp k pc ls st cs with
    | none => none
    | some (.inl q) => (ci_run n d k q.1 q.2.1 q.2.2.1 q.2.2.2.1).map (fun r => (r.1, q.2.2.2.2.1 + r.2.1, q.2.2.2.2.2 + r.2.2))
    | some (.inr (.inl q)) => match d with
      | 0 => none
      | d' + 1 => (ci_run n d' q.1 0 (pz_lc q.1 q.2.1) [] cs).bind fun r => (ci_run n (d' + 1) k (pc + 3) ls q.2.2 r.1).map fun r2 => (r2.1, r.2.1 + r2.2.1, r.2.2 + r2.2.2)
    | some (.inr (.inr _)) => some (cs, 0, 0)
def ci_cP : List ci_E := [.inl (0, [.int 0, .int 1, .ref 1, .ref 18, .ref 24]),
  .inr (2, .inr [some 2, some 10]),
  .inl (1, [.int 0, .ref 3, .int 1, .int 0, .int 0, .int 0, .int 0]),
  .inr (4, .inr [some 4, some 5, some 6, some 7, some 8, some 9]),
  .inl (2, [.int 0, .int (-1), .int 0, .int 0, .int 0, .int 0, .int 0, .int 0]),
  .inl (2, [.int 0, .int (-1), .int 0, .int 0, .int 0, .int 0, .int 0, .int 0]),
  .inl (2, [.int 0, .int (-1), .int 0, .int 0, .int 0, .int 0, .int 0, .int 0]),
  .inl (2, [.int 0, .int (-1), .int 0, .int 0, .int 0, .int 0, .int 0, .int 0]),
  .inl (2, [.int 0, .int (-1), .int 0, .int 0, .int 0, .int 0, .int 0, .int 0]),
  .inl (2, [.int 0, .int (-1), .int 0, .int 0, .int 0, .int 0, .int 0, .int 0]),
  .inl (1, [.int 1, .ref 11, .int 1, .int 0, .int 0, .int 0, .int 0]),
  .inr (4, .inr [some 12, some 13, some 14, some 15, some 16, some 17]),
  .inl (2, [.int 0, .int (-1), .int 0, .int 0, .int 0, .int 0, .int 0, .int 0]),
  .inl (2, [.int 0, .int (-1), .int 0, .int 0, .int 0, .int 0, .int 0, .int 0]),
  .inl (2, [.int 0, .int (-1), .int 0, .int 0, .int 0, .int 0, .int 0, .int 0]),
  .inl (2, [.int 0, .int (-1), .int 0, .int 0, .int 0, .int 0, .int 0, .int 0]),
  .inl (2, [.int 0, .int (-1), .int 0, .int 0, .int 0, .int 0, .int 0, .int 0]),
  .inl (2, [.int 0, .int (-1), .int 0, .int 0, .int 0, .int 0, .int 0, .int 0]),
  .inr (3, .inr [some 19, some 20, some 21, some 22, some 23]),
  .inl (3, [.int (-1), .int 0, .int 0, .int 0, .int (-4)]),
  .inl (3, [.int (-1), .int 0, .int 0, .int 0, .int (-4)]),
  .inl (3, [.int (-1), .int 0, .int 0, .int 0, .int (-4)]),
  .inl (3, [.int (-1), .int 0, .int 0, .int 0, .int (-4)]),
  .inl (3, [.int (-1), .int 0, .int 0, .int 0, .int (-4)]),
  .inl (4, [.ref 25, .int 0, .ref 50]),
  .inr (5, .inr [some 26, some 27, some 28, some 29, some 30, some 31, some 32, some 33, some 34, some 35, some 36, some 37, some 38, some 39, some 40, some 41, some 42, some 43, some 44, some 45, some 46, some 47, some 48, some 49]),
  .inl (5, [.int 0, .int 0, .int 0, .int 0, .int 0, .int 0, .int 0, .int 0, .int 0, .int 0, .int 0, .int 0, .int 0, .int 0, .int 0]),
  .inl (5, [.int 0, .int 0, .int 0, .int 0, .int 0, .int 0, .int 0, .int 0, .int 0, .int 0, .int 0, .int 0, .int 0, .int 0, .int 0]),
  .inl (5, [.int 0, .int 0, .int 0, .int 0, .int 0, .int 0, .int 0, .int 0, .int 0, .int 0, .int 0, .int 0, .int 0, .int 0, .int 0]),
  .inl (5, [.int 0, .int 0, .int 0, .int 0, .int 0, .int 0, .int 0, .int 0, .int 0, .int 0, .int 0, .int 0, .int 0, .int 0, .int 0]),
  .inl (5, [.int 0, .int 0, .int 0, .int 0, .int 0, .int 0, .int 0, .int 0, .int 0, .int 0, .int 0, .int 0, .int 0, .int 0, .int 0]),
  .inl (5, [.int 0, .int 0, .int 0, .int 0, .int 0, .int 0, .int 0, .int 0, .int 0, .int 0, .int 0, .int 0, .int 0, .int 0, .int 0]),
  .inl (5, [.int 0, .int 0, .int 0, .int 0, .int 0, .int 0, .int 0, .int 0, .int 0, .int 0, .int 0, .int 0, .int 0, .int 0, .int 0]),
  .inl (5, [.int 0, .int 0, .int 0, .int 0, .int 0, .int 0, .int 0, .int 0, .int 0, .int 0, .int 0, .int 0, .int 0, .int 0, .int 0]),
  .inl (5, [.int 0, .int 0, .int 0, .int 0, .int 0, .int 0, .int 0, .int 0, .int 0, .int 0, .int 0, .int 0, .int 0, .int 0, .int 0]),
  .inl (5, [.int 0, .int 0, .int 0, .int 0, .int 0, .int 0, .int 0, .int 0, .int 0, .int 0, .int 0, .int 0, .int 0, .int 0, .int 0]),
  .inl (5, [.int 0, .int 0, .int 0, .int 0, .int 0, .int 0, .int 0, .int 0, .int 0, .int 0, .int 0, .int 0, .int 0, .int 0, .int 0]),
  .inl (5, [.int 0, .int 0, .int 0, .int 0, .int 0, .int 0, .int 0, .int 0, .int 0, .int 0, .int 0, .int 0, .int 0, .int 0, .int 0]),
  .inl (5, [.int 0, .int 0, .int 0, .int 0, .int 0, .int 0, .int 0, .int 0, .int 0, .int 0, .int 0, .int 0, .int 0, .int 0, .int 0]),
  .inl (5, [.int 0, .int 0, .int 0, .int 0, .int 0, .int 0, .int 0, .int 0, .int 0, .int 0, .int 0, .int 0, .int 0, .int 0, .int 0]),
  .inl (5, [.int 0, .int 0, .int 0, .int 0, .int 0, .int 0, .int 0, .int 0, .int 0, .int 0, .int 0, .int 0, .int 0, .int 0, .int 0]),
  .inl (5, [.int 0, .int 0, .int 0, .int 0, .int 0, .int 0, .int 0, .int 0, .int 0, .int 0, .int 0, .int 0, .int 0, .int 0, .int 0]),
  .inl (5, [.int 0, .int 0, .int 0, .int 0, .int 0, .int 0, .int 0, .int 0, .int 0, .int 0, .int 0, .int 0, .int 0, .int 0, .int 0]),
  .inl (5, [.int 0, .int 0, .int 0, .int 0, .int 0, .int 0, .int 0, .int 0, .int 0, .int 0, .int 0, .int 0, .int 0, .int 0, .int 0]),
  .inl (5, [.int 0, .int 0, .int 0, .int 0, .int 0, .int 0, .int 0, .int 0, .int 0, .int 0, .int 0, .int 0, .int 0, .int 0, .int 0]),
  .inl (5, [.int 0, .int 0, .int 0, .int 0, .int 0, .int 0, .int 0, .int 0, .int 0, .int 0, .int 0, .int 0, .int 0, .int 0, .int 0]),
  .inl (5, [.int 0, .int 0, .int 0, .int 0, .int 0, .int 0, .int 0, .int 0, .int 0, .int 0, .int 0, .int 0, .int 0, .int 0, .int 0]),
  .inl (5, [.int 0, .int 0, .int 0, .int 0, .int 0, .int 0, .int 0, .int 0, .int 0, .int 0, .int 0, .int 0, .int 0, .int 0, .int 0]),
  .inl (5, [.int 0, .int 0, .int 0, .int 0, .int 0, .int 0, .int 0, .int 0, .int 0, .int 0, .int 0, .int 0, .int 0, .int 0, .int 0]),
  .inl (5, [.int 0, .int 0, .int 0, .int 0, .int 0, .int 0, .int 0, .int 0, .int 0, .int 0, .int 0, .int 0, .int 0, .int 0, .int 0]),
  .inl (5, [.int 0, .int 0, .int 0, .int 0, .int 0, .int 0, .int 0, .int 0, .int 0, .int 0, .int 0, .int 0, .int 0, .int 0, .int 0])]
def ci_cX : List ci_E := [.inl (6, [.int 0, .int 1, .ref 52, .ref 53, .ref 54, .ref 55, .ref 56, .ref 57, .ref 58, .ref 59, .ref 60, .ref 61, .ref 62, .ref 63, .ref 64, .ref 65, .ref 66, .ref 67, .ref 68, .ref 69, .int 0, .ref 70, .ref 71, .ref 72]),
  .inr (0, .inl (List.replicate 2 (1))),
  .inr (0, .inl (List.replicate 2 (0))),
  .inr (0, .inl (List.replicate 2 (0))),
  .inr (0, .inl (List.replicate 2 (0))),
  .inr (0, .inl (List.replicate 2 (0))),
  .inr (0, .inl (List.replicate 12 (0))),
  .inr (0, .inl (List.replicate 12 (-1))),
  .inr (0, .inl (List.replicate 12 (0))),
  .inr (0, .inl (List.replicate 12 (0))),
  .inr (0, .inl (List.replicate 12 (0))),
  .inr (0, .inl (List.replicate 12 (0))),
  .inr (0, .inl (List.replicate 12 (0))),
  .inr (1, .inl (List.replicate 12 (0))),
  .inr (0, .inl (List.replicate 5 (-1))),
  .inr (0, .inl (List.replicate 5 (0))),
  .inr (0, .inl (List.replicate 5 (0))),
  .inr (1, .inl (List.replicate 5 (0))),
  .inr (0, .inl (List.replicate 5 (-9))),
  .inr (0, .inl (List.replicate 288 (0))),
  .inr (0, .inl (List.replicate 12 (0))),
  .inr (0, .inl (List.replicate 12 (0)))]
def ci_d0 : DecidableEq (Nat × (List Int32 ⊕ List (Option Nat))) := inferInstance
def ci_d1 : DecidableEq ci_E := letI := ci_d0; inferInstance
def ci_d2 : DecidableEq (List ci_E) := letI := ci_d1; inferInstance
def ci_d3 : DecidableEq (List ci_E × Nat × Nat) := letI := ci_d2; inferInstance
def ci_d4 : DecidableEq (Option (List ci_E × Nat × Nat)) := letI := ci_d3; inferInstance
def ci_eq (x y : Option (List ci_E × Nat × Nat)) : Bool := @decide (x = y) (ci_d4 x y)
theorem ci_eq_ok {x y : Option (List ci_E × Nat × Nat)} (h : ci_eq x y = true) : x = y := @of_decide_eq_true _ (ci_d4 x y) h
set_option maxRecDepth 100000 in
theorem ci_evP : ci_run 600 3 0 0 (pz_lc 0 [.ref 0]) [] [.inl (0, ci_zero 0)] = some (ci_cP, 50, 556) := ci_eq_ok (by decide +kernel)
set_option maxRecDepth 100000 in
theorem ci_evX : ci_run 400 3 86 0 (pz_lc 86 [.ref 51]) [] (ci_cP ++ [.inl (6, ci_zero 6)]) = some (ci_cP ++ ci_cX, 21, 443) := ci_eq_ok (by decide +kernel)
