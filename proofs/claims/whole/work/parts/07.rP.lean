/-! P_tick ()I -/
theorem e1 {dA : Nat → ClassId} {d : Nat} {f : pz_F} {Q : Option Value → pz_F → Prop} {a0 : Nat} : pz_C dA d 1 [.ref a0] f Q = pz_R dA d 1 0 [.ref a0, .retAddr 0] [] f Q := rfl
theorem d1_0 : decode (pz_b 1) 0 = .ok (.aload_n 0, 1) := by decide +kernel
theorem q1_0 {dA : Nat → ClassId} {d : Nat} {st : List Value} {f : pz_F} {Q : Option Value → pz_F → Prop} {v1 : Value} {x : Nat} : pz_R dA d 1 0 [.ref x, v1] st f Q = pz_R dA d 1 1 [.ref x, v1] (.ref x :: st) f Q := pz_go (pz_so d1_0 rfl)
theorem d1_1 : decode (pz_b 1) 1 = .ok (.dup, 1) := by decide +kernel
theorem q1_1 {dA : Nat → ClassId} {d : Nat} {st : List Value} {f : pz_F} {Q : Option Value → pz_F → Prop} {v0 v1 : Value} {x : Nat} : pz_R dA d 1 1 [v0, v1] (.ref x :: st) f Q = pz_R dA d 1 2 [v0, v1] (.ref x :: .ref x :: st) f Q := pz_go (pz_so d1_1 rfl)
theorem d1_2 : decode (pz_b 1) 2 = .ok (.getfield 7, 3) := by decide +kernel
theorem q1_2 {dA : Nat → ClassId} {d : Nat} {st : List Value} {f : pz_F} {Q : Option Value → pz_F → Prop} {v0 v1 : Value} {a : Nat} : pz_R dA d 1 2 [v0, v1] (.ref a :: st) f Q = pz_o (pz_gf f a 0 0) (fun v => pz_R dA d 1 5 [v0, v1] (v :: st) f Q) := pz_gg d1_2 rfl
theorem d1_5 : decode (pz_b 1) 5 = .ok (.iconst 1, 1) := by decide +kernel
theorem q1_5 {dA : Nat → ClassId} {d : Nat} {st : List Value} {f : pz_F} {Q : Option Value → pz_F → Prop} {v0 v1 : Value} : pz_R dA d 1 5 [v0, v1] st f Q = pz_R dA d 1 6 [v0, v1] (.int 1 :: st) f Q := pz_go (pz_so d1_5 rfl)
theorem d1_6 : decode (pz_b 1) 6 = .ok (.iadd, 1) := by decide +kernel
theorem q1_6 {dA : Nat → ClassId} {d : Nat} {st : List Value} {f : pz_F} {Q : Option Value → pz_F → Prop} {v0 v1 : Value} {x y : Int32} : pz_R dA d 1 6 [v0, v1] (.int y :: .int x :: st) f Q = pz_R dA d 1 7 [v0, v1] (.int (x + y) :: st) f Q := pz_go (pz_so d1_6 rfl)
theorem d1_7 : decode (pz_b 1) 7 = .ok (.putfield 7, 3) := by decide +kernel
theorem q1_7 {dA : Nat → ClassId} {d : Nat} {st : List Value} {f : pz_F} {Q : Option Value → pz_F → Prop} {v0 v1 : Value} {x : Int32} {a : Nat} : pz_R dA d 1 7 [v0, v1] (.int x :: .ref a :: st) f Q = pz_o (pz_pf f a 0 0 (.int x)) (fun f' => pz_R dA d 1 10 [v0, v1] st f' Q) := pz_gp d1_7 rfl rfl rfl rfl
theorem d1_10 : decode (pz_b 1) 10 = .ok (.aload_n 0, 1) := by decide +kernel
theorem q1_10 {dA : Nat → ClassId} {d : Nat} {st : List Value} {f : pz_F} {Q : Option Value → pz_F → Prop} {v1 : Value} {x : Nat} : pz_R dA d 1 10 [.ref x, v1] st f Q = pz_R dA d 1 11 [.ref x, v1] (.ref x :: st) f Q := pz_go (pz_so d1_10 rfl)
theorem d1_11 : decode (pz_b 1) 11 = .ok (.getfield 36, 3) := by decide +kernel
theorem q1_11 {dA : Nat → ClassId} {d : Nat} {st : List Value} {f : pz_F} {Q : Option Value → pz_F → Prop} {v0 v1 : Value} {a : Nat} : pz_R dA d 1 11 [v0, v1] (.ref a :: st) f Q = pz_o (pz_gf f a 0 4) (fun v => pz_R dA d 1 14 [v0, v1] (v :: st) f Q) := pz_gg d1_11 rfl
theorem d1_14 : decode (pz_b 1) 14 = .ok (.aload_n 0, 1) := by decide +kernel
theorem q1_14 {dA : Nat → ClassId} {d : Nat} {st : List Value} {f : pz_F} {Q : Option Value → pz_F → Prop} {v1 : Value} {x : Nat} : pz_R dA d 1 14 [.ref x, v1] st f Q = pz_R dA d 1 15 [.ref x, v1] (.ref x :: st) f Q := pz_go (pz_so d1_14 rfl)
theorem d1_15 : decode (pz_b 1) 15 = .ok (.getfield 7, 3) := by decide +kernel
theorem q1_15 {dA : Nat → ClassId} {d : Nat} {st : List Value} {f : pz_F} {Q : Option Value → pz_F → Prop} {v0 v1 : Value} {a : Nat} : pz_R dA d 1 15 [v0, v1] (.ref a :: st) f Q = pz_o (pz_gf f a 0 0) (fun v => pz_R dA d 1 18 [v0, v1] (v :: st) f Q) := pz_gg d1_15 rfl
theorem d1_18 : decode (pz_b 1) 18 = .ok (.iconst 3, 1) := by decide +kernel
theorem q1_18 {dA : Nat → ClassId} {d : Nat} {st : List Value} {f : pz_F} {Q : Option Value → pz_F → Prop} {v0 v1 : Value} : pz_R dA d 1 18 [v0, v1] st f Q = pz_R dA d 1 19 [v0, v1] (.int 3 :: st) f Q := pz_go (pz_so d1_18 rfl)
theorem d1_19 : decode (pz_b 1) 19 = .ok (.isub, 1) := by decide +kernel
theorem q1_19 {dA : Nat → ClassId} {d : Nat} {st : List Value} {f : pz_F} {Q : Option Value → pz_F → Prop} {v0 v1 : Value} {x y : Int32} : pz_R dA d 1 19 [v0, v1] (.int y :: .int x :: st) f Q = pz_R dA d 1 20 [v0, v1] (.int (x - y) :: st) f Q := pz_go (pz_so d1_19 rfl)
theorem d1_20 : decode (pz_b 1) 20 = .ok (.invokevirtual 40, 3) := by decide +kernel
theorem q1_20 {dA : Nat → ClassId} {d : Nat} {st : List Value} {f : pz_F} {Q : Option Value → pz_F → Prop} {v0 v1 : Value} {c0 : Int32} {b : Nat} (hr : st.length ≤ 4) : pz_R dA (d + 1) 1 20 [v0, v1] (.int c0 :: .ref b :: st) f Q = pz_o (pz_gu f b 4) (fun _ => pz_C dA d 76 [.ref b, .int c0] f (fun r f' => pz_R dA (d + 1) 1 23 [v0, v1] (r.toList ++ st) f' Q)) := pz_gcv (As := [.int c0]) d1_20 rfl rfl rfl hr
theorem d1_23 : decode (pz_b 1) 23 = .ok (.iconst 0, 1) := by decide +kernel
theorem q1_23 {dA : Nat → ClassId} {d : Nat} {st : List Value} {f : pz_F} {Q : Option Value → pz_F → Prop} {v0 v1 : Value} : pz_R dA d 1 23 [v0, v1] st f Q = pz_R dA d 1 24 [v0, v1] (.int 0 :: st) f Q := pz_go (pz_so d1_23 rfl)
theorem d1_24 : decode (pz_b 1) 24 = .ok (.istore_n 1, 1) := by decide +kernel
theorem q1_24 {dA : Nat → ClassId} {d : Nat} {st : List Value} {f : pz_F} {Q : Option Value → pz_F → Prop} {v0 v1 : Value} {x : Int32} : pz_R dA d 1 24 [v0, v1] (.int x :: st) f Q = pz_R dA d 1 25 [v0, .int x] st f Q := pz_go (pz_so d1_24 rfl)
theorem d1_25 : decode (pz_b 1) 25 = .ok (.iload_n 1, 1) := by decide +kernel
theorem q1_25 {dA : Nat → ClassId} {d : Nat} {st : List Value} {f : pz_F} {Q : Option Value → pz_F → Prop} {v0 : Value} {x : Int32} : pz_R dA d 1 25 [v0, .int x] st f Q = pz_R dA d 1 26 [v0, .int x] (.int x :: st) f Q := pz_go (pz_so d1_25 rfl)
theorem d1_26 : decode (pz_b 1) 26 = .ok (.iconst 5, 1) := by decide +kernel
theorem q1_26 {dA : Nat → ClassId} {d : Nat} {st : List Value} {f : pz_F} {Q : Option Value → pz_F → Prop} {v0 v1 : Value} : pz_R dA d 1 26 [v0, v1] st f Q = pz_R dA d 1 27 [v0, v1] (.int 5 :: st) f Q := pz_go (pz_so d1_26 rfl)
theorem d1_27 : decode (pz_b 1) 27 = .ok (.if_icmp .ge 22, 3) := by decide +kernel
theorem q1_27 {dA : Nat → ClassId} {d : Nat} {st : List Value} {f : pz_F} {Q : Option Value → pz_F → Prop} {v0 v1 : Value} {x y : Int32} : pz_R dA d 1 27 [v0, v1] (.int y :: .int x :: st) f Q = (if y ≤ x then pz_R dA d 1 49 [v0, v1] st f Q else pz_R dA d 1 30 [v0, v1] st f Q) := pz_gjn .ge d1_27 rfl
theorem d1_30 : decode (pz_b 1) 30 = .ok (.aload_n 0, 1) := by decide +kernel
theorem q1_30 {dA : Nat → ClassId} {d : Nat} {st : List Value} {f : pz_F} {Q : Option Value → pz_F → Prop} {v1 : Value} {x : Nat} : pz_R dA d 1 30 [.ref x, v1] st f Q = pz_R dA d 1 31 [.ref x, v1] (.ref x :: st) f Q := pz_go (pz_so d1_30 rfl)
theorem d1_31 : decode (pz_b 1) 31 = .ok (.getfield 28, 3) := by decide +kernel
theorem q1_31 {dA : Nat → ClassId} {d : Nat} {st : List Value} {f : pz_F} {Q : Option Value → pz_F → Prop} {v0 v1 : Value} {a : Nat} : pz_R dA d 1 31 [v0, v1] (.ref a :: st) f Q = pz_o (pz_gf f a 0 3) (fun v => pz_R dA d 1 34 [v0, v1] (v :: st) f Q) := pz_gg d1_31 rfl
theorem d1_34 : decode (pz_b 1) 34 = .ok (.iload_n 1, 1) := by decide +kernel
theorem q1_34 {dA : Nat → ClassId} {d : Nat} {st : List Value} {f : pz_F} {Q : Option Value → pz_F → Prop} {v0 : Value} {x : Int32} : pz_R dA d 1 34 [v0, .int x] st f Q = pz_R dA d 1 35 [v0, .int x] (.int x :: st) f Q := pz_go (pz_so d1_34 rfl)
theorem d1_35 : decode (pz_b 1) 35 = .ok (.aaload, 1) := by decide +kernel
theorem q1_35 {dA : Nat → ClassId} {d : Nat} {st : List Value} {f : pz_F} {Q : Option Value → pz_F → Prop} {v0 v1 : Value} {i : Int32} {a : Nat} : pz_R dA d 1 35 [v0, v1] (.int i :: .ref a :: st) f Q = pz_o (pz_rl dA f a i) (fun v => pz_R dA d 1 36 [v0, v1] (v :: st) f Q) := pz_grl d1_35
theorem d1_36 : decode (pz_b 1) 36 = .ok (.aload_n 0, 1) := by decide +kernel
theorem q1_36 {dA : Nat → ClassId} {d : Nat} {st : List Value} {f : pz_F} {Q : Option Value → pz_F → Prop} {v1 : Value} {x : Nat} : pz_R dA d 1 36 [.ref x, v1] st f Q = pz_R dA d 1 37 [.ref x, v1] (.ref x :: st) f Q := pz_go (pz_so d1_36 rfl)
theorem d1_37 : decode (pz_b 1) 37 = .ok (.getfield 7, 3) := by decide +kernel
theorem q1_37 {dA : Nat → ClassId} {d : Nat} {st : List Value} {f : pz_F} {Q : Option Value → pz_F → Prop} {v0 v1 : Value} {a : Nat} : pz_R dA d 1 37 [v0, v1] (.ref a :: st) f Q = pz_o (pz_gf f a 0 0) (fun v => pz_R dA d 1 40 [v0, v1] (v :: st) f Q) := pz_gg d1_37 rfl
theorem d1_40 : decode (pz_b 1) 40 = .ok (.invokevirtual 43, 3) := by decide +kernel
theorem q1_40 {dA : Nat → ClassId} {d : Nat} {st : List Value} {f : pz_F} {Q : Option Value → pz_F → Prop} {v0 v1 : Value} {c0 : Int32} {b : Nat} (hr : st.length ≤ 4) : pz_R dA (d + 1) 1 40 [v0, v1] (.int c0 :: .ref b :: st) f Q = pz_o (pz_gu f b 3) (fun _ => pz_C dA d 67 [.ref b, .int c0] f (fun r f' => pz_R dA (d + 1) 1 43 [v0, v1] (r.toList ++ st) f' Q)) := pz_gcv (As := [.int c0]) d1_40 rfl rfl rfl hr
theorem d1_43 : decode (pz_b 1) 43 = .ok (.iinc 1 1, 3) := by decide +kernel
theorem q1_43 {dA : Nat → ClassId} {d : Nat} {st : List Value} {f : pz_F} {Q : Option Value → pz_F → Prop} {v0 : Value} {x : Int32} : pz_R dA d 1 43 [v0, .int x] st f Q = pz_R dA d 1 46 [v0, .int (x + 1)] st f Q := pz_go (pz_so d1_43 rfl)
theorem d1_46 : decode (pz_b 1) 46 = .ok (.goto (-21), 3) := by decide +kernel
theorem q1_46 {dA : Nat → ClassId} {d : Nat} {st : List Value} {f : pz_F} {Q : Option Value → pz_F → Prop} {v0 v1 : Value} : pz_R dA d 1 46 [v0, v1] st f Q = pz_R dA d 1 25 [v0, v1] st f Q := pz_go (pz_so d1_46 rfl)
theorem d1_49 : decode (pz_b 1) 49 = .ok (.iconst 0, 1) := by decide +kernel
theorem q1_49 {dA : Nat → ClassId} {d : Nat} {st : List Value} {f : pz_F} {Q : Option Value → pz_F → Prop} {v0 v1 : Value} : pz_R dA d 1 49 [v0, v1] st f Q = pz_R dA d 1 50 [v0, v1] (.int 0 :: st) f Q := pz_go (pz_so d1_49 rfl)
theorem d1_50 : decode (pz_b 1) 50 = .ok (.istore_n 1, 1) := by decide +kernel
theorem q1_50 {dA : Nat → ClassId} {d : Nat} {st : List Value} {f : pz_F} {Q : Option Value → pz_F → Prop} {v0 v1 : Value} {x : Int32} : pz_R dA d 1 50 [v0, v1] (.int x :: st) f Q = pz_R dA d 1 51 [v0, .int x] st f Q := pz_go (pz_so d1_50 rfl)
theorem d1_51 : decode (pz_b 1) 51 = .ok (.iload_n 1, 1) := by decide +kernel
theorem q1_51 {dA : Nat → ClassId} {d : Nat} {st : List Value} {f : pz_F} {Q : Option Value → pz_F → Prop} {v0 : Value} {x : Int32} : pz_R dA d 1 51 [v0, .int x] st f Q = pz_R dA d 1 52 [v0, .int x] (.int x :: st) f Q := pz_go (pz_so d1_51 rfl)
theorem d1_52 : decode (pz_b 1) 52 = .ok (.iconst 2, 1) := by decide +kernel
theorem q1_52 {dA : Nat → ClassId} {d : Nat} {st : List Value} {f : pz_F} {Q : Option Value → pz_F → Prop} {v0 v1 : Value} : pz_R dA d 1 52 [v0, v1] st f Q = pz_R dA d 1 53 [v0, v1] (.int 2 :: st) f Q := pz_go (pz_so d1_52 rfl)
theorem d1_53 : decode (pz_b 1) 53 = .ok (.if_icmp .ge 31, 3) := by decide +kernel
theorem q1_53 {dA : Nat → ClassId} {d : Nat} {st : List Value} {f : pz_F} {Q : Option Value → pz_F → Prop} {v0 v1 : Value} {x y : Int32} : pz_R dA d 1 53 [v0, v1] (.int y :: .int x :: st) f Q = (if y ≤ x then pz_R dA d 1 84 [v0, v1] st f Q else pz_R dA d 1 56 [v0, v1] st f Q) := pz_gjn .ge d1_53 rfl
theorem d1_56 : decode (pz_b 1) 56 = .ok (.aload_n 0, 1) := by decide +kernel
theorem q1_56 {dA : Nat → ClassId} {d : Nat} {st : List Value} {f : pz_F} {Q : Option Value → pz_F → Prop} {v1 : Value} {x : Nat} : pz_R dA d 1 56 [.ref x, v1] st f Q = pz_R dA d 1 57 [.ref x, v1] (.ref x :: st) f Q := pz_go (pz_so d1_56 rfl)
theorem d1_57 : decode (pz_b 1) 57 = .ok (.getfield 19, 3) := by decide +kernel
theorem q1_57 {dA : Nat → ClassId} {d : Nat} {st : List Value} {f : pz_F} {Q : Option Value → pz_F → Prop} {v0 v1 : Value} {a : Nat} : pz_R dA d 1 57 [v0, v1] (.ref a :: st) f Q = pz_o (pz_gf f a 0 2) (fun v => pz_R dA d 1 60 [v0, v1] (v :: st) f Q) := pz_gg d1_57 rfl
theorem d1_60 : decode (pz_b 1) 60 = .ok (.iload_n 1, 1) := by decide +kernel
theorem q1_60 {dA : Nat → ClassId} {d : Nat} {st : List Value} {f : pz_F} {Q : Option Value → pz_F → Prop} {v0 : Value} {x : Int32} : pz_R dA d 1 60 [v0, .int x] st f Q = pz_R dA d 1 61 [v0, .int x] (.int x :: st) f Q := pz_go (pz_so d1_60 rfl)
theorem d1_61 : decode (pz_b 1) 61 = .ok (.aaload, 1) := by decide +kernel
theorem q1_61 {dA : Nat → ClassId} {d : Nat} {st : List Value} {f : pz_F} {Q : Option Value → pz_F → Prop} {v0 v1 : Value} {i : Int32} {a : Nat} : pz_R dA d 1 61 [v0, v1] (.int i :: .ref a :: st) f Q = pz_o (pz_rl dA f a i) (fun v => pz_R dA d 1 62 [v0, v1] (v :: st) f Q) := pz_grl d1_61
theorem d1_62 : decode (pz_b 1) 62 = .ok (.getfield 46, 3) := by decide +kernel
theorem q1_62 {dA : Nat → ClassId} {d : Nat} {st : List Value} {f : pz_F} {Q : Option Value → pz_F → Prop} {v0 v1 : Value} {a : Nat} : pz_R dA d 1 62 [v0, v1] (.ref a :: st) f Q = pz_o (pz_gf f a 1 2) (fun v => pz_R dA d 1 65 [v0, v1] (v :: st) f Q) := pz_gg d1_62 rfl
theorem d1_65 : decode (pz_b 1) 65 = .ok (.ifCond .eq 13, 3) := by decide +kernel
theorem q1_65 {dA : Nat → ClassId} {d : Nat} {st : List Value} {f : pz_F} {Q : Option Value → pz_F → Prop} {v0 v1 : Value} {x : Int32} : pz_R dA d 1 65 [v0, v1] (.int x :: st) f Q = (if x = 0 then pz_R dA d 1 78 [v0, v1] st f Q else pz_R dA d 1 68 [v0, v1] st f Q) := pz_gj1 .eq d1_65 rfl
theorem d1_68 : decode (pz_b 1) 68 = .ok (.aload_n 0, 1) := by decide +kernel
theorem q1_68 {dA : Nat → ClassId} {d : Nat} {st : List Value} {f : pz_F} {Q : Option Value → pz_F → Prop} {v1 : Value} {x : Nat} : pz_R dA d 1 68 [.ref x, v1] st f Q = pz_R dA d 1 69 [.ref x, v1] (.ref x :: st) f Q := pz_go (pz_so d1_68 rfl)
theorem d1_69 : decode (pz_b 1) 69 = .ok (.aload_n 0, 1) := by decide +kernel
theorem q1_69 {dA : Nat → ClassId} {d : Nat} {st : List Value} {f : pz_F} {Q : Option Value → pz_F → Prop} {v1 : Value} {x : Nat} : pz_R dA d 1 69 [.ref x, v1] st f Q = pz_R dA d 1 70 [.ref x, v1] (.ref x :: st) f Q := pz_go (pz_so d1_69 rfl)
theorem d1_70 : decode (pz_b 1) 70 = .ok (.getfield 19, 3) := by decide +kernel
theorem q1_70 {dA : Nat → ClassId} {d : Nat} {st : List Value} {f : pz_F} {Q : Option Value → pz_F → Prop} {v0 v1 : Value} {a : Nat} : pz_R dA d 1 70 [v0, v1] (.ref a :: st) f Q = pz_o (pz_gf f a 0 2) (fun v => pz_R dA d 1 73 [v0, v1] (v :: st) f Q) := pz_gg d1_70 rfl
theorem d1_73 : decode (pz_b 1) 73 = .ok (.iload_n 1, 1) := by decide +kernel
theorem q1_73 {dA : Nat → ClassId} {d : Nat} {st : List Value} {f : pz_F} {Q : Option Value → pz_F → Prop} {v0 : Value} {x : Int32} : pz_R dA d 1 73 [v0, .int x] st f Q = pz_R dA d 1 74 [v0, .int x] (.int x :: st) f Q := pz_go (pz_so d1_73 rfl)
theorem d1_74 : decode (pz_b 1) 74 = .ok (.aaload, 1) := by decide +kernel
theorem q1_74 {dA : Nat → ClassId} {d : Nat} {st : List Value} {f : pz_F} {Q : Option Value → pz_F → Prop} {v0 v1 : Value} {i : Int32} {a : Nat} : pz_R dA d 1 74 [v0, v1] (.int i :: .ref a :: st) f Q = pz_o (pz_rl dA f a i) (fun v => pz_R dA d 1 75 [v0, v1] (v :: st) f Q) := pz_grl d1_74
theorem d1_75 : decode (pz_b 1) 75 = .ok (.invokevirtual 49, 3) := by decide +kernel
theorem q1_75 {dA : Nat → ClassId} {d : Nat} {st : List Value} {f : pz_F} {Q : Option Value → pz_F → Prop} {v0 v1 : Value} {c0 : Nat} {b : Nat} (hr : st.length ≤ 4) : pz_R dA (d + 1) 1 75 [v0, v1] (.ref c0 :: .ref b :: st) f Q = pz_o (pz_gu f b 0) (fun _ => pz_C dA d 20 [.ref b, .ref c0] f (fun r f' => pz_R dA (d + 1) 1 78 [v0, v1] (r.toList ++ st) f' Q)) := pz_gcv (As := [.ref c0]) d1_75 rfl rfl rfl hr
theorem d1_78 : decode (pz_b 1) 78 = .ok (.iinc 1 1, 3) := by decide +kernel
theorem q1_78 {dA : Nat → ClassId} {d : Nat} {st : List Value} {f : pz_F} {Q : Option Value → pz_F → Prop} {v0 : Value} {x : Int32} : pz_R dA d 1 78 [v0, .int x] st f Q = pz_R dA d 1 81 [v0, .int (x + 1)] st f Q := pz_go (pz_so d1_78 rfl)
theorem d1_81 : decode (pz_b 1) 81 = .ok (.goto (-30), 3) := by decide +kernel
theorem q1_81 {dA : Nat → ClassId} {d : Nat} {st : List Value} {f : pz_F} {Q : Option Value → pz_F → Prop} {v0 v1 : Value} : pz_R dA d 1 81 [v0, v1] st f Q = pz_R dA d 1 51 [v0, v1] st f Q := pz_go (pz_so d1_81 rfl)
theorem d1_84 : decode (pz_b 1) 84 = .ok (.aload_n 0, 1) := by decide +kernel
theorem q1_84 {dA : Nat → ClassId} {d : Nat} {st : List Value} {f : pz_F} {Q : Option Value → pz_F → Prop} {v1 : Value} {x : Nat} : pz_R dA d 1 84 [.ref x, v1] st f Q = pz_R dA d 1 85 [.ref x, v1] (.ref x :: st) f Q := pz_go (pz_so d1_84 rfl)
theorem d1_85 : decode (pz_b 1) 85 = .ok (.getfield 7, 3) := by decide +kernel
theorem q1_85 {dA : Nat → ClassId} {d : Nat} {st : List Value} {f : pz_F} {Q : Option Value → pz_F → Prop} {v0 v1 : Value} {a : Nat} : pz_R dA d 1 85 [v0, v1] (.ref a :: st) f Q = pz_o (pz_gf f a 0 0) (fun v => pz_R dA d 1 88 [v0, v1] (v :: st) f Q) := pz_gg d1_85 rfl
theorem d1_88 : decode (pz_b 1) 88 = .ok (.ireturn, 1) := by decide +kernel
theorem q1_88 {dA : Nat → ClassId} {d : Nat} {f : pz_F} {Q : Option Value → pz_F → Prop} {v0 v1 : Value} {x : Int32} : pz_R dA d 1 88 [v0, v1] [.int x] f Q = Q (some (.int x)) f := pz_gri d1_88 rfl rfl
/-! P_ask (II)Z -/
theorem e2 {dA : Nat → ClassId} {d : Nat} {f : pz_F} {Q : Option Value → pz_F → Prop} {a0 : Nat} {a1 : Int32} {a2 : Int32} : pz_C dA d 2 [.ref a0, .int a1, .int a2] f Q = pz_R dA d 2 0 [.ref a0, .int a1, .int a2, .retAddr 0] [] f Q := rfl
theorem d2_0 : decode (pz_b 2) 0 = .ok (.iload_n 1, 1) := by decide +kernel
theorem q2_0 {dA : Nat → ClassId} {d : Nat} {st : List Value} {f : pz_F} {Q : Option Value → pz_F → Prop} {v0 v2 v3 : Value} {x : Int32} : pz_R dA d 2 0 [v0, .int x, v2, v3] st f Q = pz_R dA d 2 1 [v0, .int x, v2, v3] (.int x :: st) f Q := pz_go (pz_so d2_0 rfl)
theorem d2_1 : decode (pz_b 2) 1 = .ok (.invokestatic 53, 3) := by decide +kernel
theorem q2_1 {dA : Nat → ClassId} {d : Nat} {st : List Value} {f : pz_F} {Q : Option Value → pz_F → Prop} {v0 v1 v2 v3 : Value} {c0 : Int32} (hr : st.length ≤ 4) : pz_R dA (d + 1) 2 1 [v0, v1, v2, v3] (.int c0 :: st) f Q = pz_C dA d 16 [.int c0] f (fun r f' => pz_R dA (d + 1) 2 4 [v0, v1, v2, v3] (r.toList ++ st) f' Q) := pz_gcs (As := [.int c0]) d2_1 rfl rfl rfl hr
theorem d2_4 : decode (pz_b 2) 4 = .ok (.ifCond .eq 26, 3) := by decide +kernel
theorem q2_4 {dA : Nat → ClassId} {d : Nat} {st : List Value} {f : pz_F} {Q : Option Value → pz_F → Prop} {v0 v1 v2 v3 : Value} {x : Int32} : pz_R dA d 2 4 [v0, v1, v2, v3] (.int x :: st) f Q = (if x = 0 then pz_R dA d 2 30 [v0, v1, v2, v3] st f Q else pz_R dA d 2 7 [v0, v1, v2, v3] st f Q) := pz_gj1 .eq d2_4 rfl
theorem d2_7 : decode (pz_b 2) 7 = .ok (.iload_n 2, 1) := by decide +kernel
theorem q2_7 {dA : Nat → ClassId} {d : Nat} {st : List Value} {f : pz_F} {Q : Option Value → pz_F → Prop} {v0 v1 v3 : Value} {x : Int32} : pz_R dA d 2 7 [v0, v1, .int x, v3] st f Q = pz_R dA d 2 8 [v0, v1, .int x, v3] (.int x :: st) f Q := pz_go (pz_so d2_7 rfl)
theorem d2_8 : decode (pz_b 2) 8 = .ok (.invokestatic 57, 3) := by decide +kernel
theorem q2_8 {dA : Nat → ClassId} {d : Nat} {st : List Value} {f : pz_F} {Q : Option Value → pz_F → Prop} {v0 v1 v2 v3 : Value} {c0 : Int32} (hr : st.length ≤ 4) : pz_R dA (d + 1) 2 8 [v0, v1, v2, v3] (.int c0 :: st) f Q = pz_C dA d 15 [.int c0] f (fun r f' => pz_R dA (d + 1) 2 11 [v0, v1, v2, v3] (r.toList ++ st) f' Q) := pz_gcs (As := [.int c0]) d2_8 rfl rfl rfl hr
theorem d2_11 : decode (pz_b 2) 11 = .ok (.ifCond .eq 19, 3) := by decide +kernel
theorem q2_11 {dA : Nat → ClassId} {d : Nat} {st : List Value} {f : pz_F} {Q : Option Value → pz_F → Prop} {v0 v1 v2 v3 : Value} {x : Int32} : pz_R dA d 2 11 [v0, v1, v2, v3] (.int x :: st) f Q = (if x = 0 then pz_R dA d 2 30 [v0, v1, v2, v3] st f Q else pz_R dA d 2 14 [v0, v1, v2, v3] st f Q) := pz_gj1 .eq d2_11 rfl
theorem d2_14 : decode (pz_b 2) 14 = .ok (.aload_n 0, 1) := by decide +kernel
theorem q2_14 {dA : Nat → ClassId} {d : Nat} {st : List Value} {f : pz_F} {Q : Option Value → pz_F → Prop} {v1 v2 v3 : Value} {x : Nat} : pz_R dA d 2 14 [.ref x, v1, v2, v3] st f Q = pz_R dA d 2 15 [.ref x, v1, v2, v3] (.ref x :: st) f Q := pz_go (pz_so d2_14 rfl)
theorem d2_15 : decode (pz_b 2) 15 = .ok (.getfield 28, 3) := by decide +kernel
theorem q2_15 {dA : Nat → ClassId} {d : Nat} {st : List Value} {f : pz_F} {Q : Option Value → pz_F → Prop} {v0 v1 v2 v3 : Value} {a : Nat} : pz_R dA d 2 15 [v0, v1, v2, v3] (.ref a :: st) f Q = pz_o (pz_gf f a 0 3) (fun v => pz_R dA d 2 18 [v0, v1, v2, v3] (v :: st) f Q) := pz_gg d2_15 rfl
theorem d2_18 : decode (pz_b 2) 18 = .ok (.iload_n 1, 1) := by decide +kernel
theorem q2_18 {dA : Nat → ClassId} {d : Nat} {st : List Value} {f : pz_F} {Q : Option Value → pz_F → Prop} {v0 v2 v3 : Value} {x : Int32} : pz_R dA d 2 18 [v0, .int x, v2, v3] st f Q = pz_R dA d 2 19 [v0, .int x, v2, v3] (.int x :: st) f Q := pz_go (pz_so d2_18 rfl)
theorem d2_19 : decode (pz_b 2) 19 = .ok (.aaload, 1) := by decide +kernel
theorem q2_19 {dA : Nat → ClassId} {d : Nat} {st : List Value} {f : pz_F} {Q : Option Value → pz_F → Prop} {v0 v1 v2 v3 : Value} {i : Int32} {a : Nat} : pz_R dA d 2 19 [v0, v1, v2, v3] (.int i :: .ref a :: st) f Q = pz_o (pz_rl dA f a i) (fun v => pz_R dA d 2 20 [v0, v1, v2, v3] (v :: st) f Q) := pz_grl d2_19
theorem d2_20 : decode (pz_b 2) 20 = .ok (.aload_n 0, 1) := by decide +kernel
theorem q2_20 {dA : Nat → ClassId} {d : Nat} {st : List Value} {f : pz_F} {Q : Option Value → pz_F → Prop} {v1 v2 v3 : Value} {x : Nat} : pz_R dA d 2 20 [.ref x, v1, v2, v3] st f Q = pz_R dA d 2 21 [.ref x, v1, v2, v3] (.ref x :: st) f Q := pz_go (pz_so d2_20 rfl)
theorem d2_21 : decode (pz_b 2) 21 = .ok (.getfield 7, 3) := by decide +kernel
theorem q2_21 {dA : Nat → ClassId} {d : Nat} {st : List Value} {f : pz_F} {Q : Option Value → pz_F → Prop} {v0 v1 v2 v3 : Value} {a : Nat} : pz_R dA d 2 21 [v0, v1, v2, v3] (.ref a :: st) f Q = pz_o (pz_gf f a 0 0) (fun v => pz_R dA d 2 24 [v0, v1, v2, v3] (v :: st) f Q) := pz_gg d2_21 rfl
theorem d2_24 : decode (pz_b 2) 24 = .ok (.invokevirtual 60, 3) := by decide +kernel
theorem q2_24 {dA : Nat → ClassId} {d : Nat} {st : List Value} {f : pz_F} {Q : Option Value → pz_F → Prop} {v0 v1 v2 v3 : Value} {c0 : Int32} {b : Nat} (hr : st.length ≤ 4) : pz_R dA (d + 1) 2 24 [v0, v1, v2, v3] (.int c0 :: .ref b :: st) f Q = pz_o (pz_gu f b 3) (fun _ => pz_C dA d 65 [.ref b, .int c0] f (fun r f' => pz_R dA (d + 1) 2 27 [v0, v1, v2, v3] (r.toList ++ st) f' Q)) := pz_gcv (As := [.int c0]) d2_24 rfl rfl rfl hr
theorem d2_27 : decode (pz_b 2) 27 = .ok (.ifCond .eq 5, 3) := by decide +kernel
theorem q2_27 {dA : Nat → ClassId} {d : Nat} {st : List Value} {f : pz_F} {Q : Option Value → pz_F → Prop} {v0 v1 v2 v3 : Value} {x : Int32} : pz_R dA d 2 27 [v0, v1, v2, v3] (.int x :: st) f Q = (if x = 0 then pz_R dA d 2 32 [v0, v1, v2, v3] st f Q else pz_R dA d 2 30 [v0, v1, v2, v3] st f Q) := pz_gj1 .eq d2_27 rfl
theorem d2_30 : decode (pz_b 2) 30 = .ok (.iconst 0, 1) := by decide +kernel
theorem q2_30 {dA : Nat → ClassId} {d : Nat} {st : List Value} {f : pz_F} {Q : Option Value → pz_F → Prop} {v0 v1 v2 v3 : Value} : pz_R dA d 2 30 [v0, v1, v2, v3] st f Q = pz_R dA d 2 31 [v0, v1, v2, v3] (.int 0 :: st) f Q := pz_go (pz_so d2_30 rfl)
theorem d2_31 : decode (pz_b 2) 31 = .ok (.ireturn, 1) := by decide +kernel
theorem q2_31z {dA : Nat → ClassId} {d : Nat} {f : pz_F} {Q : Option Value → pz_F → Prop} {v0 v1 v2 v3 : Value} : pz_R dA d 2 31 [v0, v1, v2, v3] [.int 0] f Q = Q (some (.int 0)) f := pz_gri d2_31 rfl rfl
theorem q2_31o {dA : Nat → ClassId} {d : Nat} {f : pz_F} {Q : Option Value → pz_F → Prop} {v0 v1 v2 v3 : Value} : pz_R dA d 2 31 [v0, v1, v2, v3] [.int 1] f Q = Q (some (.int 1)) f := pz_gri d2_31 rfl rfl
theorem d2_32 : decode (pz_b 2) 32 = .ok (.aload_n 0, 1) := by decide +kernel
theorem q2_32 {dA : Nat → ClassId} {d : Nat} {st : List Value} {f : pz_F} {Q : Option Value → pz_F → Prop} {v1 v2 v3 : Value} {x : Nat} : pz_R dA d 2 32 [.ref x, v1, v2, v3] st f Q = pz_R dA d 2 33 [.ref x, v1, v2, v3] (.ref x :: st) f Q := pz_go (pz_so d2_32 rfl)
theorem d2_33 : decode (pz_b 2) 33 = .ok (.getfield 28, 3) := by decide +kernel
theorem q2_33 {dA : Nat → ClassId} {d : Nat} {st : List Value} {f : pz_F} {Q : Option Value → pz_F → Prop} {v0 v1 v2 v3 : Value} {a : Nat} : pz_R dA d 2 33 [v0, v1, v2, v3] (.ref a :: st) f Q = pz_o (pz_gf f a 0 3) (fun v => pz_R dA d 2 36 [v0, v1, v2, v3] (v :: st) f Q) := pz_gg d2_33 rfl
theorem d2_36 : decode (pz_b 2) 36 = .ok (.iload_n 1, 1) := by decide +kernel
theorem q2_36 {dA : Nat → ClassId} {d : Nat} {st : List Value} {f : pz_F} {Q : Option Value → pz_F → Prop} {v0 v2 v3 : Value} {x : Int32} : pz_R dA d 2 36 [v0, .int x, v2, v3] st f Q = pz_R dA d 2 37 [v0, .int x, v2, v3] (.int x :: st) f Q := pz_go (pz_so d2_36 rfl)
theorem d2_37 : decode (pz_b 2) 37 = .ok (.aaload, 1) := by decide +kernel
theorem q2_37 {dA : Nat → ClassId} {d : Nat} {st : List Value} {f : pz_F} {Q : Option Value → pz_F → Prop} {v0 v1 v2 v3 : Value} {i : Int32} {a : Nat} : pz_R dA d 2 37 [v0, v1, v2, v3] (.int i :: .ref a :: st) f Q = pz_o (pz_rl dA f a i) (fun v => pz_R dA d 2 38 [v0, v1, v2, v3] (v :: st) f Q) := pz_grl d2_37
theorem d2_38 : decode (pz_b 2) 38 = .ok (.astore_n 3, 1) := by decide +kernel
theorem q2_38 {dA : Nat → ClassId} {d : Nat} {st : List Value} {f : pz_F} {Q : Option Value → pz_F → Prop} {v0 v1 v2 v3 : Value} {x : Nat} : pz_R dA d 2 38 [v0, v1, v2, v3] (.ref x :: st) f Q = pz_R dA d 2 39 [v0, v1, v2, .ref x] st f Q := pz_go (pz_so d2_38 rfl)
theorem q2_38n {dA : Nat → ClassId} {d : Nat} {st : List Value} {f : pz_F} {Q : Option Value → pz_F → Prop} {v0 v1 v2 v3 : Value} : pz_R dA d 2 38 [v0, v1, v2, v3] (.null :: st) f Q = pz_R dA d 2 39 [v0, v1, v2, .null] st f Q := pz_go (pz_so d2_38 rfl)
theorem d2_39 : decode (pz_b 2) 39 = .ok (.aload_n 3, 1) := by decide +kernel
theorem q2_39 {dA : Nat → ClassId} {d : Nat} {st : List Value} {f : pz_F} {Q : Option Value → pz_F → Prop} {v0 v1 v2 : Value} {x : Nat} : pz_R dA d 2 39 [v0, v1, v2, .ref x] st f Q = pz_R dA d 2 40 [v0, v1, v2, .ref x] (.ref x :: st) f Q := pz_go (pz_so d2_39 rfl)
theorem q2_39n {dA : Nat → ClassId} {d : Nat} {st : List Value} {f : pz_F} {Q : Option Value → pz_F → Prop} {v0 v1 v2 : Value} : pz_R dA d 2 39 [v0, v1, v2, .null] st f Q = pz_R dA d 2 40 [v0, v1, v2, .null] (.null :: st) f Q := pz_go (pz_so d2_39 rfl)
theorem d2_40 : decode (pz_b 2) 40 = .ok (.dup, 1) := by decide +kernel
theorem q2_40 {dA : Nat → ClassId} {d : Nat} {st : List Value} {f : pz_F} {Q : Option Value → pz_F → Prop} {v0 v1 v2 v3 : Value} {x : Nat} : pz_R dA d 2 40 [v0, v1, v2, v3] (.ref x :: st) f Q = pz_R dA d 2 41 [v0, v1, v2, v3] (.ref x :: .ref x :: st) f Q := pz_go (pz_so d2_40 rfl)
theorem d2_41 : decode (pz_b 2) 41 = .ok (.getfield 63, 3) := by decide +kernel
theorem q2_41 {dA : Nat → ClassId} {d : Nat} {st : List Value} {f : pz_F} {Q : Option Value → pz_F → Prop} {v0 v1 v2 v3 : Value} {a : Nat} : pz_R dA d 2 41 [v0, v1, v2, v3] (.ref a :: st) f Q = pz_o (pz_gf f a 3 2) (fun v => pz_R dA d 2 44 [v0, v1, v2, v3] (v :: st) f Q) := pz_gg d2_41 rfl
theorem d2_44 : decode (pz_b 2) 44 = .ok (.iconst 1, 1) := by decide +kernel
theorem q2_44 {dA : Nat → ClassId} {d : Nat} {st : List Value} {f : pz_F} {Q : Option Value → pz_F → Prop} {v0 v1 v2 v3 : Value} : pz_R dA d 2 44 [v0, v1, v2, v3] st f Q = pz_R dA d 2 45 [v0, v1, v2, v3] (.int 1 :: st) f Q := pz_go (pz_so d2_44 rfl)
theorem d2_45 : decode (pz_b 2) 45 = .ok (.iadd, 1) := by decide +kernel
theorem q2_45 {dA : Nat → ClassId} {d : Nat} {st : List Value} {f : pz_F} {Q : Option Value → pz_F → Prop} {v0 v1 v2 v3 : Value} {x y : Int32} : pz_R dA d 2 45 [v0, v1, v2, v3] (.int y :: .int x :: st) f Q = pz_R dA d 2 46 [v0, v1, v2, v3] (.int (x + y) :: st) f Q := pz_go (pz_so d2_45 rfl)
theorem d2_46 : decode (pz_b 2) 46 = .ok (.putfield 63, 3) := by decide +kernel
theorem q2_46 {dA : Nat → ClassId} {d : Nat} {st : List Value} {f : pz_F} {Q : Option Value → pz_F → Prop} {v0 v1 v2 v3 : Value} {x : Int32} {a : Nat} : pz_R dA d 2 46 [v0, v1, v2, v3] (.int x :: .ref a :: st) f Q = pz_o (pz_pf f a 3 2 (.int x)) (fun f' => pz_R dA d 2 49 [v0, v1, v2, v3] st f' Q) := pz_gp d2_46 rfl rfl rfl rfl
theorem d2_49 : decode (pz_b 2) 49 = .ok (.aload_n 3, 1) := by decide +kernel
theorem q2_49 {dA : Nat → ClassId} {d : Nat} {st : List Value} {f : pz_F} {Q : Option Value → pz_F → Prop} {v0 v1 v2 : Value} {x : Nat} : pz_R dA d 2 49 [v0, v1, v2, .ref x] st f Q = pz_R dA d 2 50 [v0, v1, v2, .ref x] (.ref x :: st) f Q := pz_go (pz_so d2_49 rfl)
theorem q2_49n {dA : Nat → ClassId} {d : Nat} {st : List Value} {f : pz_F} {Q : Option Value → pz_F → Prop} {v0 v1 v2 : Value} : pz_R dA d 2 49 [v0, v1, v2, .null] st f Q = pz_R dA d 2 50 [v0, v1, v2, .null] (.null :: st) f Q := pz_go (pz_so d2_49 rfl)
theorem d2_50 : decode (pz_b 2) 50 = .ok (.iconst 1, 1) := by decide +kernel
theorem q2_50 {dA : Nat → ClassId} {d : Nat} {st : List Value} {f : pz_F} {Q : Option Value → pz_F → Prop} {v0 v1 v2 v3 : Value} : pz_R dA d 2 50 [v0, v1, v2, v3] st f Q = pz_R dA d 2 51 [v0, v1, v2, v3] (.int 1 :: st) f Q := pz_go (pz_so d2_50 rfl)
theorem d2_51 : decode (pz_b 2) 51 = .ok (.putfield 66, 3) := by decide +kernel
theorem q2_51z {dA : Nat → ClassId} {d : Nat} {st : List Value} {f : pz_F} {Q : Option Value → pz_F → Prop} {v0 v1 v2 v3 : Value} {a : Nat} : pz_R dA d 2 51 [v0, v1, v2, v3] (.int 0 :: .ref a :: st) f Q = pz_o (pz_pf f a 3 3 (.int 0)) (fun f' => pz_R dA d 2 54 [v0, v1, v2, v3] st f' Q) := pz_gp d2_51 rfl rfl rfl rfl
theorem q2_51o {dA : Nat → ClassId} {d : Nat} {st : List Value} {f : pz_F} {Q : Option Value → pz_F → Prop} {v0 v1 v2 v3 : Value} {a : Nat} : pz_R dA d 2 51 [v0, v1, v2, v3] (.int 1 :: .ref a :: st) f Q = pz_o (pz_pf f a 3 3 (.int 1)) (fun f' => pz_R dA d 2 54 [v0, v1, v2, v3] st f' Q) := pz_gp d2_51 rfl rfl rfl rfl
theorem d2_54 : decode (pz_b 2) 54 = .ok (.aload_n 0, 1) := by decide +kernel
theorem q2_54 {dA : Nat → ClassId} {d : Nat} {st : List Value} {f : pz_F} {Q : Option Value → pz_F → Prop} {v1 v2 v3 : Value} {x : Nat} : pz_R dA d 2 54 [.ref x, v1, v2, v3] st f Q = pz_R dA d 2 55 [.ref x, v1, v2, v3] (.ref x :: st) f Q := pz_go (pz_so d2_54 rfl)
theorem d2_55 : decode (pz_b 2) 55 = .ok (.iconst 0, 1) := by decide +kernel
theorem q2_55 {dA : Nat → ClassId} {d : Nat} {st : List Value} {f : pz_F} {Q : Option Value → pz_F → Prop} {v0 v1 v2 v3 : Value} : pz_R dA d 2 55 [v0, v1, v2, v3] st f Q = pz_R dA d 2 56 [v0, v1, v2, v3] (.int 0 :: st) f Q := pz_go (pz_so d2_55 rfl)
theorem d2_56 : decode (pz_b 2) 56 = .ok (.iload_n 1, 1) := by decide +kernel
theorem q2_56 {dA : Nat → ClassId} {d : Nat} {st : List Value} {f : pz_F} {Q : Option Value → pz_F → Prop} {v0 v2 v3 : Value} {x : Int32} : pz_R dA d 2 56 [v0, .int x, v2, v3] st f Q = pz_R dA d 2 57 [v0, .int x, v2, v3] (.int x :: st) f Q := pz_go (pz_so d2_56 rfl)
theorem d2_57 : decode (pz_b 2) 57 = .ok (.iload_n 2, 1) := by decide +kernel
theorem q2_57 {dA : Nat → ClassId} {d : Nat} {st : List Value} {f : pz_F} {Q : Option Value → pz_F → Prop} {v0 v1 v3 : Value} {x : Int32} : pz_R dA d 2 57 [v0, v1, .int x, v3] st f Q = pz_R dA d 2 58 [v0, v1, .int x, v3] (.int x :: st) f Q := pz_go (pz_so d2_57 rfl)
theorem d2_58 : decode (pz_b 2) 58 = .ok (.aload_n 3, 1) := by decide +kernel
theorem q2_58 {dA : Nat → ClassId} {d : Nat} {st : List Value} {f : pz_F} {Q : Option Value → pz_F → Prop} {v0 v1 v2 : Value} {x : Nat} : pz_R dA d 2 58 [v0, v1, v2, .ref x] st f Q = pz_R dA d 2 59 [v0, v1, v2, .ref x] (.ref x :: st) f Q := pz_go (pz_so d2_58 rfl)
theorem q2_58n {dA : Nat → ClassId} {d : Nat} {st : List Value} {f : pz_F} {Q : Option Value → pz_F → Prop} {v0 v1 v2 : Value} : pz_R dA d 2 58 [v0, v1, v2, .null] st f Q = pz_R dA d 2 59 [v0, v1, v2, .null] (.null :: st) f Q := pz_go (pz_so d2_58 rfl)
theorem d2_59 : decode (pz_b 2) 59 = .ok (.getfield 63, 3) := by decide +kernel
theorem q2_59 {dA : Nat → ClassId} {d : Nat} {st : List Value} {f : pz_F} {Q : Option Value → pz_F → Prop} {v0 v1 v2 v3 : Value} {a : Nat} : pz_R dA d 2 59 [v0, v1, v2, v3] (.ref a :: st) f Q = pz_o (pz_gf f a 3 2) (fun v => pz_R dA d 2 62 [v0, v1, v2, v3] (v :: st) f Q) := pz_gg d2_59 rfl
theorem d2_62 : decode (pz_b 2) 62 = .ok (.invokevirtual 69, 3) := by decide +kernel
theorem q2_62 {dA : Nat → ClassId} {d : Nat} {st : List Value} {f : pz_F} {Q : Option Value → pz_F → Prop} {v0 v1 v2 v3 : Value} {c0 : Int32} {c1 : Int32} {c2 : Int32} {c3 : Int32} {b : Nat} (hr : st.length ≤ 4) : pz_R dA (d + 1) 2 62 [v0, v1, v2, v3] (.int c3 :: .int c2 :: .int c1 :: .int c0 :: .ref b :: st) f Q = pz_o (pz_gu f b 0) (fun _ => pz_C dA d 25 [.ref b, .int c0, .int c1, .int c2, .int c3] f (fun r f' => pz_R dA (d + 1) 2 65 [v0, v1, v2, v3] (r.toList ++ st) f' Q)) := pz_gcv (As := [.int c0, .int c1, .int c2, .int c3]) d2_62 rfl rfl rfl hr
theorem d2_65 : decode (pz_b 2) 65 = .ok (.iconst 1, 1) := by decide +kernel
theorem q2_65 {dA : Nat → ClassId} {d : Nat} {st : List Value} {f : pz_F} {Q : Option Value → pz_F → Prop} {v0 v1 v2 v3 : Value} : pz_R dA d 2 65 [v0, v1, v2, v3] st f Q = pz_R dA d 2 66 [v0, v1, v2, v3] (.int 1 :: st) f Q := pz_go (pz_so d2_65 rfl)
theorem d2_66 : decode (pz_b 2) 66 = .ok (.ireturn, 1) := by decide +kernel
theorem q2_66z {dA : Nat → ClassId} {d : Nat} {f : pz_F} {Q : Option Value → pz_F → Prop} {v0 v1 v2 v3 : Value} : pz_R dA d 2 66 [v0, v1, v2, v3] [.int 0] f Q = Q (some (.int 0)) f := pz_gri d2_66 rfl rfl
theorem q2_66o {dA : Nat → ClassId} {d : Nat} {f : pz_F} {Q : Option Value → pz_F → Prop} {v0 v1 v2 v3 : Value} : pz_R dA d 2 66 [v0, v1, v2, v3] [.int 1] f Q = Q (some (.int 1)) f := pz_gri d2_66 rfl rfl
/-! P_release (II)Z -/
theorem e3 {dA : Nat → ClassId} {d : Nat} {f : pz_F} {Q : Option Value → pz_F → Prop} {a0 : Nat} {a1 : Int32} {a2 : Int32} : pz_C dA d 3 [.ref a0, .int a1, .int a2] f Q = pz_R dA d 3 0 [.ref a0, .int a1, .int a2, .retAddr 0, .retAddr 0] [] f Q := rfl
theorem d3_0 : decode (pz_b 3) 0 = .ok (.iload_n 1, 1) := by decide +kernel
theorem q3_0 {dA : Nat → ClassId} {d : Nat} {st : List Value} {f : pz_F} {Q : Option Value → pz_F → Prop} {v0 v2 v3 v4 : Value} {x : Int32} : pz_R dA d 3 0 [v0, .int x, v2, v3, v4] st f Q = pz_R dA d 3 1 [v0, .int x, v2, v3, v4] (.int x :: st) f Q := pz_go (pz_so d3_0 rfl)
theorem d3_1 : decode (pz_b 3) 1 = .ok (.invokestatic 53, 3) := by decide +kernel
theorem q3_1 {dA : Nat → ClassId} {d : Nat} {st : List Value} {f : pz_F} {Q : Option Value → pz_F → Prop} {v0 v1 v2 v3 v4 : Value} {c0 : Int32} (hr : st.length ≤ 4) : pz_R dA (d + 1) 3 1 [v0, v1, v2, v3, v4] (.int c0 :: st) f Q = pz_C dA d 16 [.int c0] f (fun r f' => pz_R dA (d + 1) 3 4 [v0, v1, v2, v3, v4] (r.toList ++ st) f' Q) := pz_gcs (As := [.int c0]) d3_1 rfl rfl rfl hr
theorem d3_4 : decode (pz_b 3) 4 = .ok (.ifCond .eq 23, 3) := by decide +kernel
theorem q3_4 {dA : Nat → ClassId} {d : Nat} {st : List Value} {f : pz_F} {Q : Option Value → pz_F → Prop} {v0 v1 v2 v3 v4 : Value} {x : Int32} : pz_R dA d 3 4 [v0, v1, v2, v3, v4] (.int x :: st) f Q = (if x = 0 then pz_R dA d 3 27 [v0, v1, v2, v3, v4] st f Q else pz_R dA d 3 7 [v0, v1, v2, v3, v4] st f Q) := pz_gj1 .eq d3_4 rfl
theorem d3_7 : decode (pz_b 3) 7 = .ok (.iload_n 2, 1) := by decide +kernel
theorem q3_7 {dA : Nat → ClassId} {d : Nat} {st : List Value} {f : pz_F} {Q : Option Value → pz_F → Prop} {v0 v1 v3 v4 : Value} {x : Int32} : pz_R dA d 3 7 [v0, v1, .int x, v3, v4] st f Q = pz_R dA d 3 8 [v0, v1, .int x, v3, v4] (.int x :: st) f Q := pz_go (pz_so d3_7 rfl)
theorem d3_8 : decode (pz_b 3) 8 = .ok (.invokestatic 57, 3) := by decide +kernel
theorem q3_8 {dA : Nat → ClassId} {d : Nat} {st : List Value} {f : pz_F} {Q : Option Value → pz_F → Prop} {v0 v1 v2 v3 v4 : Value} {c0 : Int32} (hr : st.length ≤ 4) : pz_R dA (d + 1) 3 8 [v0, v1, v2, v3, v4] (.int c0 :: st) f Q = pz_C dA d 15 [.int c0] f (fun r f' => pz_R dA (d + 1) 3 11 [v0, v1, v2, v3, v4] (r.toList ++ st) f' Q) := pz_gcs (As := [.int c0]) d3_8 rfl rfl rfl hr
theorem d3_11 : decode (pz_b 3) 11 = .ok (.ifCond .eq 16, 3) := by decide +kernel
theorem q3_11 {dA : Nat → ClassId} {d : Nat} {st : List Value} {f : pz_F} {Q : Option Value → pz_F → Prop} {v0 v1 v2 v3 v4 : Value} {x : Int32} : pz_R dA d 3 11 [v0, v1, v2, v3, v4] (.int x :: st) f Q = (if x = 0 then pz_R dA d 3 27 [v0, v1, v2, v3, v4] st f Q else pz_R dA d 3 14 [v0, v1, v2, v3, v4] st f Q) := pz_gj1 .eq d3_11 rfl
theorem d3_14 : decode (pz_b 3) 14 = .ok (.aload_n 0, 1) := by decide +kernel
theorem q3_14 {dA : Nat → ClassId} {d : Nat} {st : List Value} {f : pz_F} {Q : Option Value → pz_F → Prop} {v1 v2 v3 v4 : Value} {x : Nat} : pz_R dA d 3 14 [.ref x, v1, v2, v3, v4] st f Q = pz_R dA d 3 15 [.ref x, v1, v2, v3, v4] (.ref x :: st) f Q := pz_go (pz_so d3_14 rfl)
theorem d3_15 : decode (pz_b 3) 15 = .ok (.getfield 28, 3) := by decide +kernel
theorem q3_15 {dA : Nat → ClassId} {d : Nat} {st : List Value} {f : pz_F} {Q : Option Value → pz_F → Prop} {v0 v1 v2 v3 v4 : Value} {a : Nat} : pz_R dA d 3 15 [v0, v1, v2, v3, v4] (.ref a :: st) f Q = pz_o (pz_gf f a 0 3) (fun v => pz_R dA d 3 18 [v0, v1, v2, v3, v4] (v :: st) f Q) := pz_gg d3_15 rfl
theorem d3_18 : decode (pz_b 3) 18 = .ok (.iload_n 1, 1) := by decide +kernel
theorem q3_18 {dA : Nat → ClassId} {d : Nat} {st : List Value} {f : pz_F} {Q : Option Value → pz_F → Prop} {v0 v2 v3 v4 : Value} {x : Int32} : pz_R dA d 3 18 [v0, .int x, v2, v3, v4] st f Q = pz_R dA d 3 19 [v0, .int x, v2, v3, v4] (.int x :: st) f Q := pz_go (pz_so d3_18 rfl)
theorem d3_19 : decode (pz_b 3) 19 = .ok (.aaload, 1) := by decide +kernel
theorem q3_19 {dA : Nat → ClassId} {d : Nat} {st : List Value} {f : pz_F} {Q : Option Value → pz_F → Prop} {v0 v1 v2 v3 v4 : Value} {i : Int32} {a : Nat} : pz_R dA d 3 19 [v0, v1, v2, v3, v4] (.int i :: .ref a :: st) f Q = pz_o (pz_rl dA f a i) (fun v => pz_R dA d 3 20 [v0, v1, v2, v3, v4] (v :: st) f Q) := pz_grl d3_19
theorem d3_20 : decode (pz_b 3) 20 = .ok (.getfield 73, 3) := by decide +kernel
theorem q3_20 {dA : Nat → ClassId} {d : Nat} {st : List Value} {f : pz_F} {Q : Option Value → pz_F → Prop} {v0 v1 v2 v3 v4 : Value} {a : Nat} : pz_R dA d 3 20 [v0, v1, v2, v3, v4] (.ref a :: st) f Q = pz_o (pz_gf f a 3 0) (fun v => pz_R dA d 3 23 [v0, v1, v2, v3, v4] (v :: st) f Q) := pz_gg d3_20 rfl
theorem d3_23 : decode (pz_b 3) 23 = .ok (.iconst (-1), 1) := by decide +kernel
theorem q3_23 {dA : Nat → ClassId} {d : Nat} {st : List Value} {f : pz_F} {Q : Option Value → pz_F → Prop} {v0 v1 v2 v3 v4 : Value} : pz_R dA d 3 23 [v0, v1, v2, v3, v4] st f Q = pz_R dA d 3 24 [v0, v1, v2, v3, v4] (.int (-1) :: st) f Q := pz_go (pz_so d3_23 rfl)
theorem d3_24 : decode (pz_b 3) 24 = .ok (.if_icmp .ne 5, 3) := by decide +kernel
theorem q3_24 {dA : Nat → ClassId} {d : Nat} {st : List Value} {f : pz_F} {Q : Option Value → pz_F → Prop} {v0 v1 v2 v3 v4 : Value} {x y : Int32} : pz_R dA d 3 24 [v0, v1, v2, v3, v4] (.int y :: .int x :: st) f Q = (if x = y then pz_R dA d 3 27 [v0, v1, v2, v3, v4] st f Q else pz_R dA d 3 29 [v0, v1, v2, v3, v4] st f Q) := pz_gjn .ne d3_24 rfl
theorem d3_27 : decode (pz_b 3) 27 = .ok (.iconst 0, 1) := by decide +kernel
theorem q3_27 {dA : Nat → ClassId} {d : Nat} {st : List Value} {f : pz_F} {Q : Option Value → pz_F → Prop} {v0 v1 v2 v3 v4 : Value} : pz_R dA d 3 27 [v0, v1, v2, v3, v4] st f Q = pz_R dA d 3 28 [v0, v1, v2, v3, v4] (.int 0 :: st) f Q := pz_go (pz_so d3_27 rfl)
theorem d3_28 : decode (pz_b 3) 28 = .ok (.ireturn, 1) := by decide +kernel
theorem q3_28z {dA : Nat → ClassId} {d : Nat} {f : pz_F} {Q : Option Value → pz_F → Prop} {v0 v1 v2 v3 v4 : Value} : pz_R dA d 3 28 [v0, v1, v2, v3, v4] [.int 0] f Q = Q (some (.int 0)) f := pz_gri d3_28 rfl rfl
theorem q3_28o {dA : Nat → ClassId} {d : Nat} {f : pz_F} {Q : Option Value → pz_F → Prop} {v0 v1 v2 v3 v4 : Value} : pz_R dA d 3 28 [v0, v1, v2, v3, v4] [.int 1] f Q = Q (some (.int 1)) f := pz_gri d3_28 rfl rfl
theorem d3_29 : decode (pz_b 3) 29 = .ok (.aload_n 0, 1) := by decide +kernel
theorem q3_29 {dA : Nat → ClassId} {d : Nat} {st : List Value} {f : pz_F} {Q : Option Value → pz_F → Prop} {v1 v2 v3 v4 : Value} {x : Nat} : pz_R dA d 3 29 [.ref x, v1, v2, v3, v4] st f Q = pz_R dA d 3 30 [.ref x, v1, v2, v3, v4] (.ref x :: st) f Q := pz_go (pz_so d3_29 rfl)
theorem d3_30 : decode (pz_b 3) 30 = .ok (.getfield 28, 3) := by decide +kernel
theorem q3_30 {dA : Nat → ClassId} {d : Nat} {st : List Value} {f : pz_F} {Q : Option Value → pz_F → Prop} {v0 v1 v2 v3 v4 : Value} {a : Nat} : pz_R dA d 3 30 [v0, v1, v2, v3, v4] (.ref a :: st) f Q = pz_o (pz_gf f a 0 3) (fun v => pz_R dA d 3 33 [v0, v1, v2, v3, v4] (v :: st) f Q) := pz_gg d3_30 rfl
theorem d3_33 : decode (pz_b 3) 33 = .ok (.iload_n 1, 1) := by decide +kernel
theorem q3_33 {dA : Nat → ClassId} {d : Nat} {st : List Value} {f : pz_F} {Q : Option Value → pz_F → Prop} {v0 v2 v3 v4 : Value} {x : Int32} : pz_R dA d 3 33 [v0, .int x, v2, v3, v4] st f Q = pz_R dA d 3 34 [v0, .int x, v2, v3, v4] (.int x :: st) f Q := pz_go (pz_so d3_33 rfl)
theorem d3_34 : decode (pz_b 3) 34 = .ok (.aaload, 1) := by decide +kernel
theorem q3_34 {dA : Nat → ClassId} {d : Nat} {st : List Value} {f : pz_F} {Q : Option Value → pz_F → Prop} {v0 v1 v2 v3 v4 : Value} {i : Int32} {a : Nat} : pz_R dA d 3 34 [v0, v1, v2, v3, v4] (.int i :: .ref a :: st) f Q = pz_o (pz_rl dA f a i) (fun v => pz_R dA d 3 35 [v0, v1, v2, v3, v4] (v :: st) f Q) := pz_grl d3_34
theorem d3_35 : decode (pz_b 3) 35 = .ok (.astore_n 3, 1) := by decide +kernel
theorem q3_35 {dA : Nat → ClassId} {d : Nat} {st : List Value} {f : pz_F} {Q : Option Value → pz_F → Prop} {v0 v1 v2 v3 v4 : Value} {x : Nat} : pz_R dA d 3 35 [v0, v1, v2, v3, v4] (.ref x :: st) f Q = pz_R dA d 3 36 [v0, v1, v2, .ref x, v4] st f Q := pz_go (pz_so d3_35 rfl)
theorem q3_35n {dA : Nat → ClassId} {d : Nat} {st : List Value} {f : pz_F} {Q : Option Value → pz_F → Prop} {v0 v1 v2 v3 v4 : Value} : pz_R dA d 3 35 [v0, v1, v2, v3, v4] (.null :: st) f Q = pz_R dA d 3 36 [v0, v1, v2, .null, v4] st f Q := pz_go (pz_so d3_35 rfl)
theorem d3_36 : decode (pz_b 3) 36 = .ok (.aload_n 0, 1) := by decide +kernel
theorem q3_36 {dA : Nat → ClassId} {d : Nat} {st : List Value} {f : pz_F} {Q : Option Value → pz_F → Prop} {v1 v2 v3 v4 : Value} {x : Nat} : pz_R dA d 3 36 [.ref x, v1, v2, v3, v4] st f Q = pz_R dA d 3 37 [.ref x, v1, v2, v3, v4] (.ref x :: st) f Q := pz_go (pz_so d3_36 rfl)
theorem d3_37 : decode (pz_b 3) 37 = .ok (.getfield 36, 3) := by decide +kernel
theorem q3_37 {dA : Nat → ClassId} {d : Nat} {st : List Value} {f : pz_F} {Q : Option Value → pz_F → Prop} {v0 v1 v2 v3 v4 : Value} {a : Nat} : pz_R dA d 3 37 [v0, v1, v2, v3, v4] (.ref a :: st) f Q = pz_o (pz_gf f a 0 4) (fun v => pz_R dA d 3 40 [v0, v1, v2, v3, v4] (v :: st) f Q) := pz_gg d3_37 rfl
theorem d3_40 : decode (pz_b 3) 40 = .ok (.iconst 3, 1) := by decide +kernel
theorem q3_40 {dA : Nat → ClassId} {d : Nat} {st : List Value} {f : pz_F} {Q : Option Value → pz_F → Prop} {v0 v1 v2 v3 v4 : Value} : pz_R dA d 3 40 [v0, v1, v2, v3, v4] st f Q = pz_R dA d 3 41 [v0, v1, v2, v3, v4] (.int 3 :: st) f Q := pz_go (pz_so d3_40 rfl)
theorem d3_41 : decode (pz_b 3) 41 = .ok (.iload_n 1, 1) := by decide +kernel
theorem q3_41 {dA : Nat → ClassId} {d : Nat} {st : List Value} {f : pz_F} {Q : Option Value → pz_F → Prop} {v0 v2 v3 v4 : Value} {x : Int32} : pz_R dA d 3 41 [v0, .int x, v2, v3, v4] st f Q = pz_R dA d 3 42 [v0, .int x, v2, v3, v4] (.int x :: st) f Q := pz_go (pz_so d3_41 rfl)
theorem d3_42 : decode (pz_b 3) 42 = .ok (.iload_n 2, 1) := by decide +kernel
theorem q3_42 {dA : Nat → ClassId} {d : Nat} {st : List Value} {f : pz_F} {Q : Option Value → pz_F → Prop} {v0 v1 v3 v4 : Value} {x : Int32} : pz_R dA d 3 42 [v0, v1, .int x, v3, v4] st f Q = pz_R dA d 3 43 [v0, v1, .int x, v3, v4] (.int x :: st) f Q := pz_go (pz_so d3_42 rfl)
theorem d3_43 : decode (pz_b 3) 43 = .ok (.aload_n 0, 1) := by decide +kernel
theorem q3_43 {dA : Nat → ClassId} {d : Nat} {st : List Value} {f : pz_F} {Q : Option Value → pz_F → Prop} {v1 v2 v3 v4 : Value} {x : Nat} : pz_R dA d 3 43 [.ref x, v1, v2, v3, v4] st f Q = pz_R dA d 3 44 [.ref x, v1, v2, v3, v4] (.ref x :: st) f Q := pz_go (pz_so d3_43 rfl)
theorem d3_44 : decode (pz_b 3) 44 = .ok (.getfield 7, 3) := by decide +kernel
theorem q3_44 {dA : Nat → ClassId} {d : Nat} {st : List Value} {f : pz_F} {Q : Option Value → pz_F → Prop} {v0 v1 v2 v3 v4 : Value} {a : Nat} : pz_R dA d 3 44 [v0, v1, v2, v3, v4] (.ref a :: st) f Q = pz_o (pz_gf f a 0 0) (fun v => pz_R dA d 3 47 [v0, v1, v2, v3, v4] (v :: st) f Q) := pz_gg d3_44 rfl
theorem d3_47 : decode (pz_b 3) 47 = .ok (.invokevirtual 76, 3) := by decide +kernel
theorem q3_47 {dA : Nat → ClassId} {d : Nat} {st : List Value} {f : pz_F} {Q : Option Value → pz_F → Prop} {v0 v1 v2 v3 v4 : Value} {c0 : Int32} {c1 : Int32} {c2 : Int32} {c3 : Int32} {b : Nat} (hr : st.length ≤ 4) : pz_R dA (d + 1) 3 47 [v0, v1, v2, v3, v4] (.int c3 :: .int c2 :: .int c1 :: .int c0 :: .ref b :: st) f Q = pz_o (pz_gu f b 4) (fun _ => pz_C dA d 74 [.ref b, .int c0, .int c1, .int c2, .int c3] f (fun r f' => pz_R dA (d + 1) 3 50 [v0, v1, v2, v3, v4] (r.toList ++ st) f' Q)) := pz_gcv (As := [.int c0, .int c1, .int c2, .int c3]) d3_47 rfl rfl rfl hr
theorem d3_50 : decode (pz_b 3) 50 = .ok (.astore 4, 2) := by decide +kernel
theorem q3_50 {dA : Nat → ClassId} {d : Nat} {st : List Value} {f : pz_F} {Q : Option Value → pz_F → Prop} {v0 v1 v2 v3 v4 : Value} {x : Nat} : pz_R dA d 3 50 [v0, v1, v2, v3, v4] (.ref x :: st) f Q = pz_R dA d 3 52 [v0, v1, v2, v3, .ref x] st f Q := pz_go (pz_so d3_50 rfl)
theorem q3_50n {dA : Nat → ClassId} {d : Nat} {st : List Value} {f : pz_F} {Q : Option Value → pz_F → Prop} {v0 v1 v2 v3 v4 : Value} : pz_R dA d 3 50 [v0, v1, v2, v3, v4] (.null :: st) f Q = pz_R dA d 3 52 [v0, v1, v2, v3, .null] st f Q := pz_go (pz_so d3_50 rfl)
theorem d3_52 : decode (pz_b 3) 52 = .ok (.aload 4, 2) := by decide +kernel
theorem q3_52 {dA : Nat → ClassId} {d : Nat} {st : List Value} {f : pz_F} {Q : Option Value → pz_F → Prop} {v0 v1 v2 v3 : Value} {x : Nat} : pz_R dA d 3 52 [v0, v1, v2, v3, .ref x] st f Q = pz_R dA d 3 54 [v0, v1, v2, v3, .ref x] (.ref x :: st) f Q := pz_go (pz_so d3_52 rfl)
theorem q3_52n {dA : Nat → ClassId} {d : Nat} {st : List Value} {f : pz_F} {Q : Option Value → pz_F → Prop} {v0 v1 v2 v3 : Value} : pz_R dA d 3 52 [v0, v1, v2, v3, .null] st f Q = pz_R dA d 3 54 [v0, v1, v2, v3, .null] (.null :: st) f Q := pz_go (pz_so d3_52 rfl)
theorem d3_54 : decode (pz_b 3) 54 = .ok (.ifnull 12, 3) := by decide +kernel
theorem q3_54 {dA : Nat → ClassId} {d : Nat} {st : List Value} {f : pz_F} {Q : Option Value → pz_F → Prop} {v0 v1 v2 v3 v4 : Value} {x : Nat} : pz_R dA d 3 54 [v0, v1, v2, v3, v4] (.ref x :: st) f Q = pz_R dA d 3 57 [v0, v1, v2, v3, v4] st f Q := pz_go (pz_so d3_54 rfl)
theorem q3_54n {dA : Nat → ClassId} {d : Nat} {st : List Value} {f : pz_F} {Q : Option Value → pz_F → Prop} {v0 v1 v2 v3 v4 : Value} : pz_R dA d 3 54 [v0, v1, v2, v3, v4] (.null :: st) f Q = pz_R dA d 3 66 [v0, v1, v2, v3, v4] st f Q := pz_go (pz_so d3_54 rfl)
theorem d3_57 : decode (pz_b 3) 57 = .ok (.aload 4, 2) := by decide +kernel
theorem q3_57 {dA : Nat → ClassId} {d : Nat} {st : List Value} {f : pz_F} {Q : Option Value → pz_F → Prop} {v0 v1 v2 v3 : Value} {x : Nat} : pz_R dA d 3 57 [v0, v1, v2, v3, .ref x] st f Q = pz_R dA d 3 59 [v0, v1, v2, v3, .ref x] (.ref x :: st) f Q := pz_go (pz_so d3_57 rfl)
theorem q3_57n {dA : Nat → ClassId} {d : Nat} {st : List Value} {f : pz_F} {Q : Option Value → pz_F → Prop} {v0 v1 v2 v3 : Value} : pz_R dA d 3 57 [v0, v1, v2, v3, .null] st f Q = pz_R dA d 3 59 [v0, v1, v2, v3, .null] (.null :: st) f Q := pz_go (pz_so d3_57 rfl)
theorem d3_59 : decode (pz_b 3) 59 = .ok (.aload_n 3, 1) := by decide +kernel
theorem q3_59 {dA : Nat → ClassId} {d : Nat} {st : List Value} {f : pz_F} {Q : Option Value → pz_F → Prop} {v0 v1 v2 v4 : Value} {x : Nat} : pz_R dA d 3 59 [v0, v1, v2, .ref x, v4] st f Q = pz_R dA d 3 60 [v0, v1, v2, .ref x, v4] (.ref x :: st) f Q := pz_go (pz_so d3_59 rfl)
theorem q3_59n {dA : Nat → ClassId} {d : Nat} {st : List Value} {f : pz_F} {Q : Option Value → pz_F → Prop} {v0 v1 v2 v4 : Value} : pz_R dA d 3 59 [v0, v1, v2, .null, v4] st f Q = pz_R dA d 3 60 [v0, v1, v2, .null, v4] (.null :: st) f Q := pz_go (pz_so d3_59 rfl)
theorem d3_60 : decode (pz_b 3) 60 = .ok (.getfield 73, 3) := by decide +kernel
theorem q3_60 {dA : Nat → ClassId} {d : Nat} {st : List Value} {f : pz_F} {Q : Option Value → pz_F → Prop} {v0 v1 v2 v3 v4 : Value} {a : Nat} : pz_R dA d 3 60 [v0, v1, v2, v3, v4] (.ref a :: st) f Q = pz_o (pz_gf f a 3 0) (fun v => pz_R dA d 3 63 [v0, v1, v2, v3, v4] (v :: st) f Q) := pz_gg d3_60 rfl
theorem d3_63 : decode (pz_b 3) 63 = .ok (.putfield 80, 3) := by decide +kernel
theorem q3_63 {dA : Nat → ClassId} {d : Nat} {st : List Value} {f : pz_F} {Q : Option Value → pz_F → Prop} {v0 v1 v2 v3 v4 : Value} {x : Int32} {a : Nat} : pz_R dA d 3 63 [v0, v1, v2, v3, v4] (.int x :: .ref a :: st) f Q = pz_o (pz_pf f a 5 5 (.int x)) (fun f' => pz_R dA d 3 66 [v0, v1, v2, v3, v4] st f' Q) := pz_gp d3_63 rfl rfl rfl rfl
theorem d3_66 : decode (pz_b 3) 66 = .ok (.aload_n 3, 1) := by decide +kernel
theorem q3_66 {dA : Nat → ClassId} {d : Nat} {st : List Value} {f : pz_F} {Q : Option Value → pz_F → Prop} {v0 v1 v2 v4 : Value} {x : Nat} : pz_R dA d 3 66 [v0, v1, v2, .ref x, v4] st f Q = pz_R dA d 3 67 [v0, v1, v2, .ref x, v4] (.ref x :: st) f Q := pz_go (pz_so d3_66 rfl)
theorem q3_66n {dA : Nat → ClassId} {d : Nat} {st : List Value} {f : pz_F} {Q : Option Value → pz_F → Prop} {v0 v1 v2 v4 : Value} : pz_R dA d 3 66 [v0, v1, v2, .null, v4] st f Q = pz_R dA d 3 67 [v0, v1, v2, .null, v4] (.null :: st) f Q := pz_go (pz_so d3_66 rfl)
theorem d3_67 : decode (pz_b 3) 67 = .ok (.invokevirtual 83, 3) := by decide +kernel
theorem q3_67 {dA : Nat → ClassId} {d : Nat} {st : List Value} {f : pz_F} {Q : Option Value → pz_F → Prop} {v0 v1 v2 v3 v4 : Value} {b : Nat} (hr : st.length ≤ 4) : pz_R dA (d + 1) 3 67 [v0, v1, v2, v3, v4] (.ref b :: st) f Q = pz_o (pz_gu f b 3) (fun _ => pz_C dA d 66 [.ref b] f (fun r f' => pz_R dA (d + 1) 3 70 [v0, v1, v2, v3, v4] (r.toList ++ st) f' Q)) := pz_gcv (As := []) d3_67 rfl rfl rfl hr
theorem d3_70 : decode (pz_b 3) 70 = .ok (.aload_n 3, 1) := by decide +kernel
theorem q3_70 {dA : Nat → ClassId} {d : Nat} {st : List Value} {f : pz_F} {Q : Option Value → pz_F → Prop} {v0 v1 v2 v4 : Value} {x : Nat} : pz_R dA d 3 70 [v0, v1, v2, .ref x, v4] st f Q = pz_R dA d 3 71 [v0, v1, v2, .ref x, v4] (.ref x :: st) f Q := pz_go (pz_so d3_70 rfl)
theorem q3_70n {dA : Nat → ClassId} {d : Nat} {st : List Value} {f : pz_F} {Q : Option Value → pz_F → Prop} {v0 v1 v2 v4 : Value} : pz_R dA d 3 70 [v0, v1, v2, .null, v4] st f Q = pz_R dA d 3 71 [v0, v1, v2, .null, v4] (.null :: st) f Q := pz_go (pz_so d3_70 rfl)
theorem d3_71 : decode (pz_b 3) 71 = .ok (.iconst 0, 1) := by decide +kernel
theorem q3_71 {dA : Nat → ClassId} {d : Nat} {st : List Value} {f : pz_F} {Q : Option Value → pz_F → Prop} {v0 v1 v2 v3 v4 : Value} : pz_R dA d 3 71 [v0, v1, v2, v3, v4] st f Q = pz_R dA d 3 72 [v0, v1, v2, v3, v4] (.int 0 :: st) f Q := pz_go (pz_so d3_71 rfl)
theorem d3_72 : decode (pz_b 3) 72 = .ok (.putfield 66, 3) := by decide +kernel
theorem q3_72z {dA : Nat → ClassId} {d : Nat} {st : List Value} {f : pz_F} {Q : Option Value → pz_F → Prop} {v0 v1 v2 v3 v4 : Value} {a : Nat} : pz_R dA d 3 72 [v0, v1, v2, v3, v4] (.int 0 :: .ref a :: st) f Q = pz_o (pz_pf f a 3 3 (.int 0)) (fun f' => pz_R dA d 3 75 [v0, v1, v2, v3, v4] st f' Q) := pz_gp d3_72 rfl rfl rfl rfl
theorem q3_72o {dA : Nat → ClassId} {d : Nat} {st : List Value} {f : pz_F} {Q : Option Value → pz_F → Prop} {v0 v1 v2 v3 v4 : Value} {a : Nat} : pz_R dA d 3 72 [v0, v1, v2, v3, v4] (.int 1 :: .ref a :: st) f Q = pz_o (pz_pf f a 3 3 (.int 1)) (fun f' => pz_R dA d 3 75 [v0, v1, v2, v3, v4] st f' Q) := pz_gp d3_72 rfl rfl rfl rfl
theorem d3_75 : decode (pz_b 3) 75 = .ok (.aload_n 3, 1) := by decide +kernel
theorem q3_75 {dA : Nat → ClassId} {d : Nat} {st : List Value} {f : pz_F} {Q : Option Value → pz_F → Prop} {v0 v1 v2 v4 : Value} {x : Nat} : pz_R dA d 3 75 [v0, v1, v2, .ref x, v4] st f Q = pz_R dA d 3 76 [v0, v1, v2, .ref x, v4] (.ref x :: st) f Q := pz_go (pz_so d3_75 rfl)
theorem q3_75n {dA : Nat → ClassId} {d : Nat} {st : List Value} {f : pz_F} {Q : Option Value → pz_F → Prop} {v0 v1 v2 v4 : Value} : pz_R dA d 3 75 [v0, v1, v2, .null, v4] st f Q = pz_R dA d 3 76 [v0, v1, v2, .null, v4] (.null :: st) f Q := pz_go (pz_so d3_75 rfl)
theorem d3_76 : decode (pz_b 3) 76 = .ok (.aload_n 0, 1) := by decide +kernel
theorem q3_76 {dA : Nat → ClassId} {d : Nat} {st : List Value} {f : pz_F} {Q : Option Value → pz_F → Prop} {v1 v2 v3 v4 : Value} {x : Nat} : pz_R dA d 3 76 [.ref x, v1, v2, v3, v4] st f Q = pz_R dA d 3 77 [.ref x, v1, v2, v3, v4] (.ref x :: st) f Q := pz_go (pz_so d3_76 rfl)
theorem d3_77 : decode (pz_b 3) 77 = .ok (.getfield 7, 3) := by decide +kernel
theorem q3_77 {dA : Nat → ClassId} {d : Nat} {st : List Value} {f : pz_F} {Q : Option Value → pz_F → Prop} {v0 v1 v2 v3 v4 : Value} {a : Nat} : pz_R dA d 3 77 [v0, v1, v2, v3, v4] (.ref a :: st) f Q = pz_o (pz_gf f a 0 0) (fun v => pz_R dA d 3 80 [v0, v1, v2, v3, v4] (v :: st) f Q) := pz_gg d3_77 rfl
theorem d3_80 : decode (pz_b 3) 80 = .ok (.putfield 86, 3) := by decide +kernel
theorem q3_80 {dA : Nat → ClassId} {d : Nat} {st : List Value} {f : pz_F} {Q : Option Value → pz_F → Prop} {v0 v1 v2 v3 v4 : Value} {x : Int32} {a : Nat} : pz_R dA d 3 80 [v0, v1, v2, v3, v4] (.int x :: .ref a :: st) f Q = pz_o (pz_pf f a 3 4 (.int x)) (fun f' => pz_R dA d 3 83 [v0, v1, v2, v3, v4] st f' Q) := pz_gp d3_80 rfl rfl rfl rfl
theorem d3_83 : decode (pz_b 3) 83 = .ok (.iconst 1, 1) := by decide +kernel
theorem q3_83 {dA : Nat → ClassId} {d : Nat} {st : List Value} {f : pz_F} {Q : Option Value → pz_F → Prop} {v0 v1 v2 v3 v4 : Value} : pz_R dA d 3 83 [v0, v1, v2, v3, v4] st f Q = pz_R dA d 3 84 [v0, v1, v2, v3, v4] (.int 1 :: st) f Q := pz_go (pz_so d3_83 rfl)
theorem d3_84 : decode (pz_b 3) 84 = .ok (.ireturn, 1) := by decide +kernel
theorem q3_84z {dA : Nat → ClassId} {d : Nat} {f : pz_F} {Q : Option Value → pz_F → Prop} {v0 v1 v2 v3 v4 : Value} : pz_R dA d 3 84 [v0, v1, v2, v3, v4] [.int 0] f Q = Q (some (.int 0)) f := pz_gri d3_84 rfl rfl
theorem q3_84o {dA : Nat → ClassId} {d : Nat} {f : pz_F} {Q : Option Value → pz_F → Prop} {v0 v1 v2 v3 v4 : Value} : pz_R dA d 3 84 [v0, v1, v2, v3, v4] [.int 1] f Q = Q (some (.int 1)) f := pz_gri d3_84 rfl rfl
/-! P_deliver (I)Z -/
theorem e4 {dA : Nat → ClassId} {d : Nat} {f : pz_F} {Q : Option Value → pz_F → Prop} {a0 : Nat} {a1 : Int32} : pz_C dA d 4 [.ref a0, .int a1] f Q = pz_R dA d 4 0 [.ref a0, .int a1, .retAddr 0] [] f Q := rfl
theorem d4_0 : decode (pz_b 4) 0 = .ok (.aload_n 0, 1) := by decide +kernel
theorem q4_0 {dA : Nat → ClassId} {d : Nat} {st : List Value} {f : pz_F} {Q : Option Value → pz_F → Prop} {v1 v2 : Value} {x : Nat} : pz_R dA d 4 0 [.ref x, v1, v2] st f Q = pz_R dA d 4 1 [.ref x, v1, v2] (.ref x :: st) f Q := pz_go (pz_so d4_0 rfl)
theorem d4_1 : decode (pz_b 4) 1 = .ok (.getfield 36, 3) := by decide +kernel
theorem q4_1 {dA : Nat → ClassId} {d : Nat} {st : List Value} {f : pz_F} {Q : Option Value → pz_F → Prop} {v0 v1 v2 : Value} {a : Nat} : pz_R dA d 4 1 [v0, v1, v2] (.ref a :: st) f Q = pz_o (pz_gf f a 0 4) (fun v => pz_R dA d 4 4 [v0, v1, v2] (v :: st) f Q) := pz_gg d4_1 rfl
theorem d4_4 : decode (pz_b 4) 4 = .ok (.iload_n 1, 1) := by decide +kernel
theorem q4_4 {dA : Nat → ClassId} {d : Nat} {st : List Value} {f : pz_F} {Q : Option Value → pz_F → Prop} {v0 v2 : Value} {x : Int32} : pz_R dA d 4 4 [v0, .int x, v2] st f Q = pz_R dA d 4 5 [v0, .int x, v2] (.int x :: st) f Q := pz_go (pz_so d4_4 rfl)
theorem d4_5 : decode (pz_b 4) 5 = .ok (.invokevirtual 89, 3) := by decide +kernel
theorem q4_5 {dA : Nat → ClassId} {d : Nat} {st : List Value} {f : pz_F} {Q : Option Value → pz_F → Prop} {v0 v1 v2 : Value} {c0 : Int32} {b : Nat} (hr : st.length ≤ 4) : pz_R dA (d + 1) 4 5 [v0, v1, v2] (.int c0 :: .ref b :: st) f Q = pz_o (pz_gu f b 4) (fun _ => pz_C dA d 73 [.ref b, .int c0] f (fun r f' => pz_R dA (d + 1) 4 8 [v0, v1, v2] (r.toList ++ st) f' Q)) := pz_gcv (As := [.int c0]) d4_5 rfl rfl rfl hr
theorem d4_8 : decode (pz_b 4) 8 = .ok (.ifCond .ne 5, 3) := by decide +kernel
theorem q4_8 {dA : Nat → ClassId} {d : Nat} {st : List Value} {f : pz_F} {Q : Option Value → pz_F → Prop} {v0 v1 v2 : Value} {x : Int32} : pz_R dA d 4 8 [v0, v1, v2] (.int x :: st) f Q = (if x = 0 then pz_R dA d 4 11 [v0, v1, v2] st f Q else pz_R dA d 4 13 [v0, v1, v2] st f Q) := pz_gj1 .ne d4_8 rfl
theorem d4_11 : decode (pz_b 4) 11 = .ok (.iconst 0, 1) := by decide +kernel
theorem q4_11 {dA : Nat → ClassId} {d : Nat} {st : List Value} {f : pz_F} {Q : Option Value → pz_F → Prop} {v0 v1 v2 : Value} : pz_R dA d 4 11 [v0, v1, v2] st f Q = pz_R dA d 4 12 [v0, v1, v2] (.int 0 :: st) f Q := pz_go (pz_so d4_11 rfl)
theorem d4_12 : decode (pz_b 4) 12 = .ok (.ireturn, 1) := by decide +kernel
theorem q4_12z {dA : Nat → ClassId} {d : Nat} {f : pz_F} {Q : Option Value → pz_F → Prop} {v0 v1 v2 : Value} : pz_R dA d 4 12 [v0, v1, v2] [.int 0] f Q = Q (some (.int 0)) f := pz_gri d4_12 rfl rfl
theorem q4_12o {dA : Nat → ClassId} {d : Nat} {f : pz_F} {Q : Option Value → pz_F → Prop} {v0 v1 v2 : Value} : pz_R dA d 4 12 [v0, v1, v2] [.int 1] f Q = Q (some (.int 1)) f := pz_gri d4_12 rfl rfl
theorem d4_13 : decode (pz_b 4) 13 = .ok (.aload_n 0, 1) := by decide +kernel
theorem q4_13 {dA : Nat → ClassId} {d : Nat} {st : List Value} {f : pz_F} {Q : Option Value → pz_F → Prop} {v1 v2 : Value} {x : Nat} : pz_R dA d 4 13 [.ref x, v1, v2] st f Q = pz_R dA d 4 14 [.ref x, v1, v2] (.ref x :: st) f Q := pz_go (pz_so d4_13 rfl)
theorem d4_14 : decode (pz_b 4) 14 = .ok (.getfield 36, 3) := by decide +kernel
theorem q4_14 {dA : Nat → ClassId} {d : Nat} {st : List Value} {f : pz_F} {Q : Option Value → pz_F → Prop} {v0 v1 v2 : Value} {a : Nat} : pz_R dA d 4 14 [v0, v1, v2] (.ref a :: st) f Q = pz_o (pz_gf f a 0 4) (fun v => pz_R dA d 4 17 [v0, v1, v2] (v :: st) f Q) := pz_gg d4_14 rfl
theorem d4_17 : decode (pz_b 4) 17 = .ok (.iload_n 1, 1) := by decide +kernel
theorem q4_17 {dA : Nat → ClassId} {d : Nat} {st : List Value} {f : pz_F} {Q : Option Value → pz_F → Prop} {v0 v2 : Value} {x : Int32} : pz_R dA d 4 17 [v0, .int x, v2] st f Q = pz_R dA d 4 18 [v0, .int x, v2] (.int x :: st) f Q := pz_go (pz_so d4_17 rfl)
theorem d4_18 : decode (pz_b 4) 18 = .ok (.invokevirtual 92, 3) := by decide +kernel
theorem q4_18 {dA : Nat → ClassId} {d : Nat} {st : List Value} {f : pz_F} {Q : Option Value → pz_F → Prop} {v0 v1 v2 : Value} {c0 : Int32} {b : Nat} (hr : st.length ≤ 4) : pz_R dA (d + 1) 4 18 [v0, v1, v2] (.int c0 :: .ref b :: st) f Q = pz_o (pz_gu f b 4) (fun _ => pz_C dA d 75 [.ref b, .int c0] f (fun r f' => pz_R dA (d + 1) 4 21 [v0, v1, v2] (r.toList ++ st) f' Q)) := pz_gcv (As := [.int c0]) d4_18 rfl rfl rfl hr
theorem d4_21 : decode (pz_b 4) 21 = .ok (.astore_n 2, 1) := by decide +kernel
theorem q4_21 {dA : Nat → ClassId} {d : Nat} {st : List Value} {f : pz_F} {Q : Option Value → pz_F → Prop} {v0 v1 v2 : Value} {x : Nat} : pz_R dA d 4 21 [v0, v1, v2] (.ref x :: st) f Q = pz_R dA d 4 22 [v0, v1, .ref x] st f Q := pz_go (pz_so d4_21 rfl)
theorem q4_21n {dA : Nat → ClassId} {d : Nat} {st : List Value} {f : pz_F} {Q : Option Value → pz_F → Prop} {v0 v1 v2 : Value} : pz_R dA d 4 21 [v0, v1, v2] (.null :: st) f Q = pz_R dA d 4 22 [v0, v1, .null] st f Q := pz_go (pz_so d4_21 rfl)
theorem d4_22 : decode (pz_b 4) 22 = .ok (.aload_n 0, 1) := by decide +kernel
theorem q4_22 {dA : Nat → ClassId} {d : Nat} {st : List Value} {f : pz_F} {Q : Option Value → pz_F → Prop} {v1 v2 : Value} {x : Nat} : pz_R dA d 4 22 [.ref x, v1, v2] st f Q = pz_R dA d 4 23 [.ref x, v1, v2] (.ref x :: st) f Q := pz_go (pz_so d4_22 rfl)
theorem d4_23 : decode (pz_b 4) 23 = .ok (.aload_n 2, 1) := by decide +kernel
theorem q4_23 {dA : Nat → ClassId} {d : Nat} {st : List Value} {f : pz_F} {Q : Option Value → pz_F → Prop} {v0 v1 : Value} {x : Nat} : pz_R dA d 4 23 [v0, v1, .ref x] st f Q = pz_R dA d 4 24 [v0, v1, .ref x] (.ref x :: st) f Q := pz_go (pz_so d4_23 rfl)
theorem q4_23n {dA : Nat → ClassId} {d : Nat} {st : List Value} {f : pz_F} {Q : Option Value → pz_F → Prop} {v0 v1 : Value} : pz_R dA d 4 23 [v0, v1, .null] st f Q = pz_R dA d 4 24 [v0, v1, .null] (.null :: st) f Q := pz_go (pz_so d4_23 rfl)
theorem d4_24 : decode (pz_b 4) 24 = .ok (.invokevirtual 96, 3) := by decide +kernel
theorem q4_24 {dA : Nat → ClassId} {d : Nat} {st : List Value} {f : pz_F} {Q : Option Value → pz_F → Prop} {v0 v1 v2 : Value} {c0 : Nat} {b : Nat} (hr : st.length ≤ 4) : pz_R dA (d + 1) 4 24 [v0, v1, v2] (.ref c0 :: .ref b :: st) f Q = pz_o (pz_gu f b 0) (fun _ => pz_C dA d 28 [.ref b, .ref c0] f (fun r f' => pz_R dA (d + 1) 4 27 [v0, v1, v2] (r.toList ++ st) f' Q)) := pz_gcv (As := [.ref c0]) d4_24 rfl rfl rfl hr
theorem d4_27 : decode (pz_b 4) 27 = .ok (.ifCond .ne 5, 3) := by decide +kernel
theorem q4_27 {dA : Nat → ClassId} {d : Nat} {st : List Value} {f : pz_F} {Q : Option Value → pz_F → Prop} {v0 v1 v2 : Value} {x : Int32} : pz_R dA d 4 27 [v0, v1, v2] (.int x :: st) f Q = (if x = 0 then pz_R dA d 4 30 [v0, v1, v2] st f Q else pz_R dA d 4 32 [v0, v1, v2] st f Q) := pz_gj1 .ne d4_27 rfl
theorem d4_30 : decode (pz_b 4) 30 = .ok (.iconst 0, 1) := by decide +kernel
theorem q4_30 {dA : Nat → ClassId} {d : Nat} {st : List Value} {f : pz_F} {Q : Option Value → pz_F → Prop} {v0 v1 v2 : Value} : pz_R dA d 4 30 [v0, v1, v2] st f Q = pz_R dA d 4 31 [v0, v1, v2] (.int 0 :: st) f Q := pz_go (pz_so d4_30 rfl)
theorem d4_31 : decode (pz_b 4) 31 = .ok (.ireturn, 1) := by decide +kernel
theorem q4_31z {dA : Nat → ClassId} {d : Nat} {f : pz_F} {Q : Option Value → pz_F → Prop} {v0 v1 v2 : Value} : pz_R dA d 4 31 [v0, v1, v2] [.int 0] f Q = Q (some (.int 0)) f := pz_gri d4_31 rfl rfl
theorem q4_31o {dA : Nat → ClassId} {d : Nat} {f : pz_F} {Q : Option Value → pz_F → Prop} {v0 v1 v2 : Value} : pz_R dA d 4 31 [v0, v1, v2] [.int 1] f Q = Q (some (.int 1)) f := pz_gri d4_31 rfl rfl
theorem d4_32 : decode (pz_b 4) 32 = .ok (.aload_n 0, 1) := by decide +kernel
theorem q4_32 {dA : Nat → ClassId} {d : Nat} {st : List Value} {f : pz_F} {Q : Option Value → pz_F → Prop} {v1 v2 : Value} {x : Nat} : pz_R dA d 4 32 [.ref x, v1, v2] st f Q = pz_R dA d 4 33 [.ref x, v1, v2] (.ref x :: st) f Q := pz_go (pz_so d4_32 rfl)
theorem d4_33 : decode (pz_b 4) 33 = .ok (.aload_n 2, 1) := by decide +kernel
theorem q4_33 {dA : Nat → ClassId} {d : Nat} {st : List Value} {f : pz_F} {Q : Option Value → pz_F → Prop} {v0 v1 : Value} {x : Nat} : pz_R dA d 4 33 [v0, v1, .ref x] st f Q = pz_R dA d 4 34 [v0, v1, .ref x] (.ref x :: st) f Q := pz_go (pz_so d4_33 rfl)
theorem q4_33n {dA : Nat → ClassId} {d : Nat} {st : List Value} {f : pz_F} {Q : Option Value → pz_F → Prop} {v0 v1 : Value} : pz_R dA d 4 33 [v0, v1, .null] st f Q = pz_R dA d 4 34 [v0, v1, .null] (.null :: st) f Q := pz_go (pz_so d4_33 rfl)
theorem d4_34 : decode (pz_b 4) 34 = .ok (.invokevirtual 100, 3) := by decide +kernel
theorem q4_34 {dA : Nat → ClassId} {d : Nat} {st : List Value} {f : pz_F} {Q : Option Value → pz_F → Prop} {v0 v1 v2 : Value} {c0 : Nat} {b : Nat} (hr : st.length ≤ 4) : pz_R dA (d + 1) 4 34 [v0, v1, v2] (.ref c0 :: .ref b :: st) f Q = pz_o (pz_gu f b 0) (fun _ => pz_C dA d 29 [.ref b, .ref c0] f (fun r f' => pz_R dA (d + 1) 4 37 [v0, v1, v2] (r.toList ++ st) f' Q)) := pz_gcv (As := [.ref c0]) d4_34 rfl rfl rfl hr
theorem d4_37 : decode (pz_b 4) 37 = .ok (.iconst 1, 1) := by decide +kernel
theorem q4_37 {dA : Nat → ClassId} {d : Nat} {st : List Value} {f : pz_F} {Q : Option Value → pz_F → Prop} {v0 v1 v2 : Value} : pz_R dA d 4 37 [v0, v1, v2] st f Q = pz_R dA d 4 38 [v0, v1, v2] (.int 1 :: st) f Q := pz_go (pz_so d4_37 rfl)
theorem d4_38 : decode (pz_b 4) 38 = .ok (.ireturn, 1) := by decide +kernel
theorem q4_38z {dA : Nat → ClassId} {d : Nat} {f : pz_F} {Q : Option Value → pz_F → Prop} {v0 v1 v2 : Value} : pz_R dA d 4 38 [v0, v1, v2] [.int 0] f Q = Q (some (.int 0)) f := pz_gri d4_38 rfl rfl
theorem q4_38o {dA : Nat → ClassId} {d : Nat} {f : pz_F} {Q : Option Value → pz_F → Prop} {v0 v1 v2 : Value} : pz_R dA d 4 38 [v0, v1, v2] [.int 1] f Q = Q (some (.int 1)) f := pz_gri d4_38 rfl rfl
/-! P_lose (I)Z -/
theorem e5 {dA : Nat → ClassId} {d : Nat} {f : pz_F} {Q : Option Value → pz_F → Prop} {a0 : Nat} {a1 : Int32} : pz_C dA d 5 [.ref a0, .int a1] f Q = pz_R dA d 5 0 [.ref a0, .int a1] [] f Q := rfl
theorem d5_0 : decode (pz_b 5) 0 = .ok (.aload_n 0, 1) := by decide +kernel
theorem q5_0 {dA : Nat → ClassId} {d : Nat} {st : List Value} {f : pz_F} {Q : Option Value → pz_F → Prop} {v1 : Value} {x : Nat} : pz_R dA d 5 0 [.ref x, v1] st f Q = pz_R dA d 5 1 [.ref x, v1] (.ref x :: st) f Q := pz_go (pz_so d5_0 rfl)
theorem d5_1 : decode (pz_b 5) 1 = .ok (.getfield 36, 3) := by decide +kernel
theorem q5_1 {dA : Nat → ClassId} {d : Nat} {st : List Value} {f : pz_F} {Q : Option Value → pz_F → Prop} {v0 v1 : Value} {a : Nat} : pz_R dA d 5 1 [v0, v1] (.ref a :: st) f Q = pz_o (pz_gf f a 0 4) (fun v => pz_R dA d 5 4 [v0, v1] (v :: st) f Q) := pz_gg d5_1 rfl
theorem d5_4 : decode (pz_b 5) 4 = .ok (.iload_n 1, 1) := by decide +kernel
theorem q5_4 {dA : Nat → ClassId} {d : Nat} {st : List Value} {f : pz_F} {Q : Option Value → pz_F → Prop} {v0 : Value} {x : Int32} : pz_R dA d 5 4 [v0, .int x] st f Q = pz_R dA d 5 5 [v0, .int x] (.int x :: st) f Q := pz_go (pz_so d5_4 rfl)
theorem d5_5 : decode (pz_b 5) 5 = .ok (.invokevirtual 89, 3) := by decide +kernel
theorem q5_5 {dA : Nat → ClassId} {d : Nat} {st : List Value} {f : pz_F} {Q : Option Value → pz_F → Prop} {v0 v1 : Value} {c0 : Int32} {b : Nat} (hr : st.length ≤ 4) : pz_R dA (d + 1) 5 5 [v0, v1] (.int c0 :: .ref b :: st) f Q = pz_o (pz_gu f b 4) (fun _ => pz_C dA d 73 [.ref b, .int c0] f (fun r f' => pz_R dA (d + 1) 5 8 [v0, v1] (r.toList ++ st) f' Q)) := pz_gcv (As := [.int c0]) d5_5 rfl rfl rfl hr
theorem d5_8 : decode (pz_b 5) 8 = .ok (.ifCond .ne 5, 3) := by decide +kernel
theorem q5_8 {dA : Nat → ClassId} {d : Nat} {st : List Value} {f : pz_F} {Q : Option Value → pz_F → Prop} {v0 v1 : Value} {x : Int32} : pz_R dA d 5 8 [v0, v1] (.int x :: st) f Q = (if x = 0 then pz_R dA d 5 11 [v0, v1] st f Q else pz_R dA d 5 13 [v0, v1] st f Q) := pz_gj1 .ne d5_8 rfl
theorem d5_11 : decode (pz_b 5) 11 = .ok (.iconst 0, 1) := by decide +kernel
theorem q5_11 {dA : Nat → ClassId} {d : Nat} {st : List Value} {f : pz_F} {Q : Option Value → pz_F → Prop} {v0 v1 : Value} : pz_R dA d 5 11 [v0, v1] st f Q = pz_R dA d 5 12 [v0, v1] (.int 0 :: st) f Q := pz_go (pz_so d5_11 rfl)
theorem d5_12 : decode (pz_b 5) 12 = .ok (.ireturn, 1) := by decide +kernel
theorem q5_12z {dA : Nat → ClassId} {d : Nat} {f : pz_F} {Q : Option Value → pz_F → Prop} {v0 v1 : Value} : pz_R dA d 5 12 [v0, v1] [.int 0] f Q = Q (some (.int 0)) f := pz_gri d5_12 rfl rfl
theorem q5_12o {dA : Nat → ClassId} {d : Nat} {f : pz_F} {Q : Option Value → pz_F → Prop} {v0 v1 : Value} : pz_R dA d 5 12 [v0, v1] [.int 1] f Q = Q (some (.int 1)) f := pz_gri d5_12 rfl rfl
theorem d5_13 : decode (pz_b 5) 13 = .ok (.aload_n 0, 1) := by decide +kernel
theorem q5_13 {dA : Nat → ClassId} {d : Nat} {st : List Value} {f : pz_F} {Q : Option Value → pz_F → Prop} {v1 : Value} {x : Nat} : pz_R dA d 5 13 [.ref x, v1] st f Q = pz_R dA d 5 14 [.ref x, v1] (.ref x :: st) f Q := pz_go (pz_so d5_13 rfl)
theorem d5_14 : decode (pz_b 5) 14 = .ok (.getfield 36, 3) := by decide +kernel
theorem q5_14 {dA : Nat → ClassId} {d : Nat} {st : List Value} {f : pz_F} {Q : Option Value → pz_F → Prop} {v0 v1 : Value} {a : Nat} : pz_R dA d 5 14 [v0, v1] (.ref a :: st) f Q = pz_o (pz_gf f a 0 4) (fun v => pz_R dA d 5 17 [v0, v1] (v :: st) f Q) := pz_gg d5_14 rfl
theorem d5_17 : decode (pz_b 5) 17 = .ok (.iload_n 1, 1) := by decide +kernel
theorem q5_17 {dA : Nat → ClassId} {d : Nat} {st : List Value} {f : pz_F} {Q : Option Value → pz_F → Prop} {v0 : Value} {x : Int32} : pz_R dA d 5 17 [v0, .int x] st f Q = pz_R dA d 5 18 [v0, .int x] (.int x :: st) f Q := pz_go (pz_so d5_17 rfl)
theorem d5_18 : decode (pz_b 5) 18 = .ok (.invokevirtual 92, 3) := by decide +kernel
theorem q5_18 {dA : Nat → ClassId} {d : Nat} {st : List Value} {f : pz_F} {Q : Option Value → pz_F → Prop} {v0 v1 : Value} {c0 : Int32} {b : Nat} (hr : st.length ≤ 4) : pz_R dA (d + 1) 5 18 [v0, v1] (.int c0 :: .ref b :: st) f Q = pz_o (pz_gu f b 4) (fun _ => pz_C dA d 75 [.ref b, .int c0] f (fun r f' => pz_R dA (d + 1) 5 21 [v0, v1] (r.toList ++ st) f' Q)) := pz_gcv (As := [.int c0]) d5_18 rfl rfl rfl hr
theorem d5_21 : decode (pz_b 5) 21 = .ok (.pop, 1) := by decide +kernel
theorem q5_21 {dA : Nat → ClassId} {d : Nat} {st : List Value} {f : pz_F} {Q : Option Value → pz_F → Prop} {v0 v1 : Value} {x : Nat} : pz_R dA d 5 21 [v0, v1] (.ref x :: st) f Q = pz_R dA d 5 22 [v0, v1] st f Q := pz_go (pz_so d5_21 rfl)
theorem d5_22 : decode (pz_b 5) 22 = .ok (.iconst 1, 1) := by decide +kernel
theorem q5_22 {dA : Nat → ClassId} {d : Nat} {st : List Value} {f : pz_F} {Q : Option Value → pz_F → Prop} {v0 v1 : Value} : pz_R dA d 5 22 [v0, v1] st f Q = pz_R dA d 5 23 [v0, v1] (.int 1 :: st) f Q := pz_go (pz_so d5_22 rfl)
theorem d5_23 : decode (pz_b 5) 23 = .ok (.ireturn, 1) := by decide +kernel
theorem q5_23z {dA : Nat → ClassId} {d : Nat} {f : pz_F} {Q : Option Value → pz_F → Prop} {v0 v1 : Value} : pz_R dA d 5 23 [v0, v1] [.int 0] f Q = Q (some (.int 0)) f := pz_gri d5_23 rfl rfl
theorem q5_23o {dA : Nat → ClassId} {d : Nat} {f : pz_F} {Q : Option Value → pz_F → Prop} {v0 v1 : Value} : pz_R dA d 5 23 [v0, v1] [.int 1] f Q = Q (some (.int 1)) f := pz_gri d5_23 rfl rfl
/-! P_stop (I)Z -/
theorem e6 {dA : Nat → ClassId} {d : Nat} {f : pz_F} {Q : Option Value → pz_F → Prop} {a0 : Nat} {a1 : Int32} : pz_C dA d 6 [.ref a0, .int a1] f Q = pz_R dA d 6 0 [.ref a0, .int a1] [] f Q := rfl
theorem d6_0 : decode (pz_b 6) 0 = .ok (.iload_n 1, 1) := by decide +kernel
theorem q6_0 {dA : Nat → ClassId} {d : Nat} {st : List Value} {f : pz_F} {Q : Option Value → pz_F → Prop} {v0 : Value} {x : Int32} : pz_R dA d 6 0 [v0, .int x] st f Q = pz_R dA d 6 1 [v0, .int x] (.int x :: st) f Q := pz_go (pz_so d6_0 rfl)
theorem d6_1 : decode (pz_b 6) 1 = .ok (.invokestatic 57, 3) := by decide +kernel
theorem q6_1 {dA : Nat → ClassId} {d : Nat} {st : List Value} {f : pz_F} {Q : Option Value → pz_F → Prop} {v0 v1 : Value} {c0 : Int32} (hr : st.length ≤ 4) : pz_R dA (d + 1) 6 1 [v0, v1] (.int c0 :: st) f Q = pz_C dA d 15 [.int c0] f (fun r f' => pz_R dA (d + 1) 6 4 [v0, v1] (r.toList ++ st) f' Q) := pz_gcs (As := [.int c0]) d6_1 rfl rfl rfl hr
theorem d6_4 : decode (pz_b 6) 4 = .ok (.ifCond .eq 27, 3) := by decide +kernel
theorem q6_4 {dA : Nat → ClassId} {d : Nat} {st : List Value} {f : pz_F} {Q : Option Value → pz_F → Prop} {v0 v1 : Value} {x : Int32} : pz_R dA d 6 4 [v0, v1] (.int x :: st) f Q = (if x = 0 then pz_R dA d 6 31 [v0, v1] st f Q else pz_R dA d 6 7 [v0, v1] st f Q) := pz_gj1 .eq d6_4 rfl
theorem d6_7 : decode (pz_b 6) 7 = .ok (.aload_n 0, 1) := by decide +kernel
theorem q6_7 {dA : Nat → ClassId} {d : Nat} {st : List Value} {f : pz_F} {Q : Option Value → pz_F → Prop} {v1 : Value} {x : Nat} : pz_R dA d 6 7 [.ref x, v1] st f Q = pz_R dA d 6 8 [.ref x, v1] (.ref x :: st) f Q := pz_go (pz_so d6_7 rfl)
theorem d6_8 : decode (pz_b 6) 8 = .ok (.getfield 19, 3) := by decide +kernel
theorem q6_8 {dA : Nat → ClassId} {d : Nat} {st : List Value} {f : pz_F} {Q : Option Value → pz_F → Prop} {v0 v1 : Value} {a : Nat} : pz_R dA d 6 8 [v0, v1] (.ref a :: st) f Q = pz_o (pz_gf f a 0 2) (fun v => pz_R dA d 6 11 [v0, v1] (v :: st) f Q) := pz_gg d6_8 rfl
theorem d6_11 : decode (pz_b 6) 11 = .ok (.iconst 0, 1) := by decide +kernel
theorem q6_11 {dA : Nat → ClassId} {d : Nat} {st : List Value} {f : pz_F} {Q : Option Value → pz_F → Prop} {v0 v1 : Value} : pz_R dA d 6 11 [v0, v1] st f Q = pz_R dA d 6 12 [v0, v1] (.int 0 :: st) f Q := pz_go (pz_so d6_11 rfl)
theorem d6_12 : decode (pz_b 6) 12 = .ok (.aaload, 1) := by decide +kernel
theorem q6_12 {dA : Nat → ClassId} {d : Nat} {st : List Value} {f : pz_F} {Q : Option Value → pz_F → Prop} {v0 v1 : Value} {i : Int32} {a : Nat} : pz_R dA d 6 12 [v0, v1] (.int i :: .ref a :: st) f Q = pz_o (pz_rl dA f a i) (fun v => pz_R dA d 6 13 [v0, v1] (v :: st) f Q) := pz_grl d6_12
theorem d6_13 : decode (pz_b 6) 13 = .ok (.invokestatic 104, 3) := by decide +kernel
theorem q6_13 {dA : Nat → ClassId} {d : Nat} {st : List Value} {f : pz_F} {Q : Option Value → pz_F → Prop} {v0 v1 : Value} {c0 : Nat} (hr : st.length ≤ 4) : pz_R dA (d + 1) 6 13 [v0, v1] (.ref c0 :: st) f Q = pz_C dA d 17 [.ref c0] f (fun r f' => pz_R dA (d + 1) 6 16 [v0, v1] (r.toList ++ st) f' Q) := pz_gcs (As := [.ref c0]) d6_13 rfl rfl rfl hr
theorem d6_16 : decode (pz_b 6) 16 = .ok (.ifCond .ne 15, 3) := by decide +kernel
theorem q6_16 {dA : Nat → ClassId} {d : Nat} {st : List Value} {f : pz_F} {Q : Option Value → pz_F → Prop} {v0 v1 : Value} {x : Int32} : pz_R dA d 6 16 [v0, v1] (.int x :: st) f Q = (if x = 0 then pz_R dA d 6 19 [v0, v1] st f Q else pz_R dA d 6 31 [v0, v1] st f Q) := pz_gj1 .ne d6_16 rfl
theorem d6_19 : decode (pz_b 6) 19 = .ok (.aload_n 0, 1) := by decide +kernel
theorem q6_19 {dA : Nat → ClassId} {d : Nat} {st : List Value} {f : pz_F} {Q : Option Value → pz_F → Prop} {v1 : Value} {x : Nat} : pz_R dA d 6 19 [.ref x, v1] st f Q = pz_R dA d 6 20 [.ref x, v1] (.ref x :: st) f Q := pz_go (pz_so d6_19 rfl)
theorem d6_20 : decode (pz_b 6) 20 = .ok (.getfield 19, 3) := by decide +kernel
theorem q6_20 {dA : Nat → ClassId} {d : Nat} {st : List Value} {f : pz_F} {Q : Option Value → pz_F → Prop} {v0 v1 : Value} {a : Nat} : pz_R dA d 6 20 [v0, v1] (.ref a :: st) f Q = pz_o (pz_gf f a 0 2) (fun v => pz_R dA d 6 23 [v0, v1] (v :: st) f Q) := pz_gg d6_20 rfl
theorem d6_23 : decode (pz_b 6) 23 = .ok (.iconst 1, 1) := by decide +kernel
theorem q6_23 {dA : Nat → ClassId} {d : Nat} {st : List Value} {f : pz_F} {Q : Option Value → pz_F → Prop} {v0 v1 : Value} : pz_R dA d 6 23 [v0, v1] st f Q = pz_R dA d 6 24 [v0, v1] (.int 1 :: st) f Q := pz_go (pz_so d6_23 rfl)
theorem d6_24 : decode (pz_b 6) 24 = .ok (.aaload, 1) := by decide +kernel
theorem q6_24 {dA : Nat → ClassId} {d : Nat} {st : List Value} {f : pz_F} {Q : Option Value → pz_F → Prop} {v0 v1 : Value} {i : Int32} {a : Nat} : pz_R dA d 6 24 [v0, v1] (.int i :: .ref a :: st) f Q = pz_o (pz_rl dA f a i) (fun v => pz_R dA d 6 25 [v0, v1] (v :: st) f Q) := pz_grl d6_24
theorem d6_25 : decode (pz_b 6) 25 = .ok (.invokestatic 104, 3) := by decide +kernel
theorem q6_25 {dA : Nat → ClassId} {d : Nat} {st : List Value} {f : pz_F} {Q : Option Value → pz_F → Prop} {v0 v1 : Value} {c0 : Nat} (hr : st.length ≤ 4) : pz_R dA (d + 1) 6 25 [v0, v1] (.ref c0 :: st) f Q = pz_C dA d 17 [.ref c0] f (fun r f' => pz_R dA (d + 1) 6 28 [v0, v1] (r.toList ++ st) f' Q) := pz_gcs (As := [.ref c0]) d6_25 rfl rfl rfl hr
theorem d6_28 : decode (pz_b 6) 28 = .ok (.ifCond .eq 5, 3) := by decide +kernel
theorem q6_28 {dA : Nat → ClassId} {d : Nat} {st : List Value} {f : pz_F} {Q : Option Value → pz_F → Prop} {v0 v1 : Value} {x : Int32} : pz_R dA d 6 28 [v0, v1] (.int x :: st) f Q = (if x = 0 then pz_R dA d 6 33 [v0, v1] st f Q else pz_R dA d 6 31 [v0, v1] st f Q) := pz_gj1 .eq d6_28 rfl
theorem d6_31 : decode (pz_b 6) 31 = .ok (.iconst 0, 1) := by decide +kernel
theorem q6_31 {dA : Nat → ClassId} {d : Nat} {st : List Value} {f : pz_F} {Q : Option Value → pz_F → Prop} {v0 v1 : Value} : pz_R dA d 6 31 [v0, v1] st f Q = pz_R dA d 6 32 [v0, v1] (.int 0 :: st) f Q := pz_go (pz_so d6_31 rfl)
theorem d6_32 : decode (pz_b 6) 32 = .ok (.ireturn, 1) := by decide +kernel
theorem q6_32z {dA : Nat → ClassId} {d : Nat} {f : pz_F} {Q : Option Value → pz_F → Prop} {v0 v1 : Value} : pz_R dA d 6 32 [v0, v1] [.int 0] f Q = Q (some (.int 0)) f := pz_gri d6_32 rfl rfl
theorem q6_32o {dA : Nat → ClassId} {d : Nat} {f : pz_F} {Q : Option Value → pz_F → Prop} {v0 v1 : Value} : pz_R dA d 6 32 [v0, v1] [.int 1] f Q = Q (some (.int 1)) f := pz_gri d6_32 rfl rfl
theorem d6_33 : decode (pz_b 6) 33 = .ok (.aload_n 0, 1) := by decide +kernel
theorem q6_33 {dA : Nat → ClassId} {d : Nat} {st : List Value} {f : pz_F} {Q : Option Value → pz_F → Prop} {v1 : Value} {x : Nat} : pz_R dA d 6 33 [.ref x, v1] st f Q = pz_R dA d 6 34 [.ref x, v1] (.ref x :: st) f Q := pz_go (pz_so d6_33 rfl)
theorem d6_34 : decode (pz_b 6) 34 = .ok (.getfield 19, 3) := by decide +kernel
theorem q6_34 {dA : Nat → ClassId} {d : Nat} {st : List Value} {f : pz_F} {Q : Option Value → pz_F → Prop} {v0 v1 : Value} {a : Nat} : pz_R dA d 6 34 [v0, v1] (.ref a :: st) f Q = pz_o (pz_gf f a 0 2) (fun v => pz_R dA d 6 37 [v0, v1] (v :: st) f Q) := pz_gg d6_34 rfl
theorem d6_37 : decode (pz_b 6) 37 = .ok (.iload_n 1, 1) := by decide +kernel
theorem q6_37 {dA : Nat → ClassId} {d : Nat} {st : List Value} {f : pz_F} {Q : Option Value → pz_F → Prop} {v0 : Value} {x : Int32} : pz_R dA d 6 37 [v0, .int x] st f Q = pz_R dA d 6 38 [v0, .int x] (.int x :: st) f Q := pz_go (pz_so d6_37 rfl)
theorem d6_38 : decode (pz_b 6) 38 = .ok (.aaload, 1) := by decide +kernel
theorem q6_38 {dA : Nat → ClassId} {d : Nat} {st : List Value} {f : pz_F} {Q : Option Value → pz_F → Prop} {v0 v1 : Value} {i : Int32} {a : Nat} : pz_R dA d 6 38 [v0, v1] (.int i :: .ref a :: st) f Q = pz_o (pz_rl dA f a i) (fun v => pz_R dA d 6 39 [v0, v1] (v :: st) f Q) := pz_grl d6_38
theorem d6_39 : decode (pz_b 6) 39 = .ok (.iconst 0, 1) := by decide +kernel
theorem q6_39 {dA : Nat → ClassId} {d : Nat} {st : List Value} {f : pz_F} {Q : Option Value → pz_F → Prop} {v0 v1 : Value} : pz_R dA d 6 39 [v0, v1] st f Q = pz_R dA d 6 40 [v0, v1] (.int 0 :: st) f Q := pz_go (pz_so d6_39 rfl)
theorem d6_40 : decode (pz_b 6) 40 = .ok (.putfield 46, 3) := by decide +kernel
theorem q6_40 {dA : Nat → ClassId} {d : Nat} {st : List Value} {f : pz_F} {Q : Option Value → pz_F → Prop} {v0 v1 : Value} {x : Int32} {a : Nat} : pz_R dA d 6 40 [v0, v1] (.int x :: .ref a :: st) f Q = pz_o (pz_pf f a 1 2 (.int x)) (fun f' => pz_R dA d 6 43 [v0, v1] st f' Q) := pz_gp d6_40 rfl rfl rfl rfl
theorem d6_43 : decode (pz_b 6) 43 = .ok (.aload_n 0, 1) := by decide +kernel
theorem q6_43 {dA : Nat → ClassId} {d : Nat} {st : List Value} {f : pz_F} {Q : Option Value → pz_F → Prop} {v1 : Value} {x : Nat} : pz_R dA d 6 43 [.ref x, v1] st f Q = pz_R dA d 6 44 [.ref x, v1] (.ref x :: st) f Q := pz_go (pz_so d6_43 rfl)
theorem d6_44 : decode (pz_b 6) 44 = .ok (.getfield 36, 3) := by decide +kernel
theorem q6_44 {dA : Nat → ClassId} {d : Nat} {st : List Value} {f : pz_F} {Q : Option Value → pz_F → Prop} {v0 v1 : Value} {a : Nat} : pz_R dA d 6 44 [v0, v1] (.ref a :: st) f Q = pz_o (pz_gf f a 0 4) (fun v => pz_R dA d 6 47 [v0, v1] (v :: st) f Q) := pz_gg d6_44 rfl
theorem d6_47 : decode (pz_b 6) 47 = .ok (.invokevirtual 108, 3) := by decide +kernel
theorem q6_47 {dA : Nat → ClassId} {d : Nat} {st : List Value} {f : pz_F} {Q : Option Value → pz_F → Prop} {v0 v1 : Value} {b : Nat} (hr : st.length ≤ 4) : pz_R dA (d + 1) 6 47 [v0, v1] (.ref b :: st) f Q = pz_o (pz_gu f b 4) (fun _ => pz_C dA d 77 [.ref b] f (fun r f' => pz_R dA (d + 1) 6 50 [v0, v1] (r.toList ++ st) f' Q)) := pz_gcv (As := []) d6_47 rfl rfl rfl hr
theorem d6_50 : decode (pz_b 6) 50 = .ok (.iconst 1, 1) := by decide +kernel
theorem q6_50 {dA : Nat → ClassId} {d : Nat} {st : List Value} {f : pz_F} {Q : Option Value → pz_F → Prop} {v0 v1 : Value} : pz_R dA d 6 50 [v0, v1] st f Q = pz_R dA d 6 51 [v0, v1] (.int 1 :: st) f Q := pz_go (pz_so d6_50 rfl)
theorem d6_51 : decode (pz_b 6) 51 = .ok (.ireturn, 1) := by decide +kernel
theorem q6_51z {dA : Nat → ClassId} {d : Nat} {f : pz_F} {Q : Option Value → pz_F → Prop} {v0 v1 : Value} : pz_R dA d 6 51 [v0, v1] [.int 0] f Q = Q (some (.int 0)) f := pz_gri d6_51 rfl rfl
theorem q6_51o {dA : Nat → ClassId} {d : Nat} {f : pz_F} {Q : Option Value → pz_F → Prop} {v0 v1 : Value} : pz_R dA d 6 51 [v0, v1] [.int 1] f Q = Q (some (.int 1)) f := pz_gri d6_51 rfl rfl
/-! P_start (I)Z -/
theorem e7 {dA : Nat → ClassId} {d : Nat} {f : pz_F} {Q : Option Value → pz_F → Prop} {a0 : Nat} {a1 : Int32} : pz_C dA d 7 [.ref a0, .int a1] f Q = pz_R dA d 7 0 [.ref a0, .int a1] [] f Q := rfl
theorem d7_0 : decode (pz_b 7) 0 = .ok (.iload_n 1, 1) := by decide +kernel
theorem q7_0 {dA : Nat → ClassId} {d : Nat} {st : List Value} {f : pz_F} {Q : Option Value → pz_F → Prop} {v0 : Value} {x : Int32} : pz_R dA d 7 0 [v0, .int x] st f Q = pz_R dA d 7 1 [v0, .int x] (.int x :: st) f Q := pz_go (pz_so d7_0 rfl)
theorem d7_1 : decode (pz_b 7) 1 = .ok (.invokestatic 57, 3) := by decide +kernel
theorem q7_1 {dA : Nat → ClassId} {d : Nat} {st : List Value} {f : pz_F} {Q : Option Value → pz_F → Prop} {v0 v1 : Value} {c0 : Int32} (hr : st.length ≤ 4) : pz_R dA (d + 1) 7 1 [v0, v1] (.int c0 :: st) f Q = pz_C dA d 15 [.int c0] f (fun r f' => pz_R dA (d + 1) 7 4 [v0, v1] (r.toList ++ st) f' Q) := pz_gcs (As := [.int c0]) d7_1 rfl rfl rfl hr
theorem d7_4 : decode (pz_b 7) 4 = .ok (.ifCond .eq 22, 3) := by decide +kernel
theorem q7_4 {dA : Nat → ClassId} {d : Nat} {st : List Value} {f : pz_F} {Q : Option Value → pz_F → Prop} {v0 v1 : Value} {x : Int32} : pz_R dA d 7 4 [v0, v1] (.int x :: st) f Q = (if x = 0 then pz_R dA d 7 26 [v0, v1] st f Q else pz_R dA d 7 7 [v0, v1] st f Q) := pz_gj1 .eq d7_4 rfl
theorem d7_7 : decode (pz_b 7) 7 = .ok (.aload_n 0, 1) := by decide +kernel
theorem q7_7 {dA : Nat → ClassId} {d : Nat} {st : List Value} {f : pz_F} {Q : Option Value → pz_F → Prop} {v1 : Value} {x : Nat} : pz_R dA d 7 7 [.ref x, v1] st f Q = pz_R dA d 7 8 [.ref x, v1] (.ref x :: st) f Q := pz_go (pz_so d7_7 rfl)
theorem d7_8 : decode (pz_b 7) 8 = .ok (.getfield 19, 3) := by decide +kernel
theorem q7_8 {dA : Nat → ClassId} {d : Nat} {st : List Value} {f : pz_F} {Q : Option Value → pz_F → Prop} {v0 v1 : Value} {a : Nat} : pz_R dA d 7 8 [v0, v1] (.ref a :: st) f Q = pz_o (pz_gf f a 0 2) (fun v => pz_R dA d 7 11 [v0, v1] (v :: st) f Q) := pz_gg d7_8 rfl
theorem d7_11 : decode (pz_b 7) 11 = .ok (.iload_n 1, 1) := by decide +kernel
theorem q7_11 {dA : Nat → ClassId} {d : Nat} {st : List Value} {f : pz_F} {Q : Option Value → pz_F → Prop} {v0 : Value} {x : Int32} : pz_R dA d 7 11 [v0, .int x] st f Q = pz_R dA d 7 12 [v0, .int x] (.int x :: st) f Q := pz_go (pz_so d7_11 rfl)
theorem d7_12 : decode (pz_b 7) 12 = .ok (.aaload, 1) := by decide +kernel
theorem q7_12 {dA : Nat → ClassId} {d : Nat} {st : List Value} {f : pz_F} {Q : Option Value → pz_F → Prop} {v0 v1 : Value} {i : Int32} {a : Nat} : pz_R dA d 7 12 [v0, v1] (.int i :: .ref a :: st) f Q = pz_o (pz_rl dA f a i) (fun v => pz_R dA d 7 13 [v0, v1] (v :: st) f Q) := pz_grl d7_12
theorem d7_13 : decode (pz_b 7) 13 = .ok (.getfield 46, 3) := by decide +kernel
theorem q7_13 {dA : Nat → ClassId} {d : Nat} {st : List Value} {f : pz_F} {Q : Option Value → pz_F → Prop} {v0 v1 : Value} {a : Nat} : pz_R dA d 7 13 [v0, v1] (.ref a :: st) f Q = pz_o (pz_gf f a 1 2) (fun v => pz_R dA d 7 16 [v0, v1] (v :: st) f Q) := pz_gg d7_13 rfl
theorem d7_16 : decode (pz_b 7) 16 = .ok (.ifCond .ne 10, 3) := by decide +kernel
theorem q7_16 {dA : Nat → ClassId} {d : Nat} {st : List Value} {f : pz_F} {Q : Option Value → pz_F → Prop} {v0 v1 : Value} {x : Int32} : pz_R dA d 7 16 [v0, v1] (.int x :: st) f Q = (if x = 0 then pz_R dA d 7 19 [v0, v1] st f Q else pz_R dA d 7 26 [v0, v1] st f Q) := pz_gj1 .ne d7_16 rfl
theorem d7_19 : decode (pz_b 7) 19 = .ok (.aload_n 0, 1) := by decide +kernel
theorem q7_19 {dA : Nat → ClassId} {d : Nat} {st : List Value} {f : pz_F} {Q : Option Value → pz_F → Prop} {v1 : Value} {x : Nat} : pz_R dA d 7 19 [.ref x, v1] st f Q = pz_R dA d 7 20 [.ref x, v1] (.ref x :: st) f Q := pz_go (pz_so d7_19 rfl)
theorem d7_20 : decode (pz_b 7) 20 = .ok (.getfield 13, 3) := by decide +kernel
theorem q7_20 {dA : Nat → ClassId} {d : Nat} {st : List Value} {f : pz_F} {Q : Option Value → pz_F → Prop} {v0 v1 : Value} {a : Nat} : pz_R dA d 7 20 [v0, v1] (.ref a :: st) f Q = pz_o (pz_gf f a 0 1) (fun v => pz_R dA d 7 23 [v0, v1] (v :: st) f Q) := pz_gg d7_20 rfl
theorem d7_23 : decode (pz_b 7) 23 = .ok (.ifCond .ne 5, 3) := by decide +kernel
theorem q7_23 {dA : Nat → ClassId} {d : Nat} {st : List Value} {f : pz_F} {Q : Option Value → pz_F → Prop} {v0 v1 : Value} {x : Int32} : pz_R dA d 7 23 [v0, v1] (.int x :: st) f Q = (if x = 0 then pz_R dA d 7 26 [v0, v1] st f Q else pz_R dA d 7 28 [v0, v1] st f Q) := pz_gj1 .ne d7_23 rfl
theorem d7_26 : decode (pz_b 7) 26 = .ok (.iconst 0, 1) := by decide +kernel
theorem q7_26 {dA : Nat → ClassId} {d : Nat} {st : List Value} {f : pz_F} {Q : Option Value → pz_F → Prop} {v0 v1 : Value} : pz_R dA d 7 26 [v0, v1] st f Q = pz_R dA d 7 27 [v0, v1] (.int 0 :: st) f Q := pz_go (pz_so d7_26 rfl)
theorem d7_27 : decode (pz_b 7) 27 = .ok (.ireturn, 1) := by decide +kernel
theorem q7_27z {dA : Nat → ClassId} {d : Nat} {f : pz_F} {Q : Option Value → pz_F → Prop} {v0 v1 : Value} : pz_R dA d 7 27 [v0, v1] [.int 0] f Q = Q (some (.int 0)) f := pz_gri d7_27 rfl rfl
theorem q7_27o {dA : Nat → ClassId} {d : Nat} {f : pz_F} {Q : Option Value → pz_F → Prop} {v0 v1 : Value} : pz_R dA d 7 27 [v0, v1] [.int 1] f Q = Q (some (.int 1)) f := pz_gri d7_27 rfl rfl
theorem d7_28 : decode (pz_b 7) 28 = .ok (.aload_n 0, 1) := by decide +kernel
theorem q7_28 {dA : Nat → ClassId} {d : Nat} {st : List Value} {f : pz_F} {Q : Option Value → pz_F → Prop} {v1 : Value} {x : Nat} : pz_R dA d 7 28 [.ref x, v1] st f Q = pz_R dA d 7 29 [.ref x, v1] (.ref x :: st) f Q := pz_go (pz_so d7_28 rfl)
theorem d7_29 : decode (pz_b 7) 29 = .ok (.getfield 19, 3) := by decide +kernel
theorem q7_29 {dA : Nat → ClassId} {d : Nat} {st : List Value} {f : pz_F} {Q : Option Value → pz_F → Prop} {v0 v1 : Value} {a : Nat} : pz_R dA d 7 29 [v0, v1] (.ref a :: st) f Q = pz_o (pz_gf f a 0 2) (fun v => pz_R dA d 7 32 [v0, v1] (v :: st) f Q) := pz_gg d7_29 rfl
theorem d7_32 : decode (pz_b 7) 32 = .ok (.iload_n 1, 1) := by decide +kernel
theorem q7_32 {dA : Nat → ClassId} {d : Nat} {st : List Value} {f : pz_F} {Q : Option Value → pz_F → Prop} {v0 : Value} {x : Int32} : pz_R dA d 7 32 [v0, .int x] st f Q = pz_R dA d 7 33 [v0, .int x] (.int x :: st) f Q := pz_go (pz_so d7_32 rfl)
theorem d7_33 : decode (pz_b 7) 33 = .ok (.aaload, 1) := by decide +kernel
theorem q7_33 {dA : Nat → ClassId} {d : Nat} {st : List Value} {f : pz_F} {Q : Option Value → pz_F → Prop} {v0 v1 : Value} {i : Int32} {a : Nat} : pz_R dA d 7 33 [v0, v1] (.int i :: .ref a :: st) f Q = pz_o (pz_rl dA f a i) (fun v => pz_R dA d 7 34 [v0, v1] (v :: st) f Q) := pz_grl d7_33
theorem d7_34 : decode (pz_b 7) 34 = .ok (.aload_n 0, 1) := by decide +kernel
theorem q7_34 {dA : Nat → ClassId} {d : Nat} {st : List Value} {f : pz_F} {Q : Option Value → pz_F → Prop} {v1 : Value} {x : Nat} : pz_R dA d 7 34 [.ref x, v1] st f Q = pz_R dA d 7 35 [.ref x, v1] (.ref x :: st) f Q := pz_go (pz_so d7_34 rfl)
theorem d7_35 : decode (pz_b 7) 35 = .ok (.getfield 7, 3) := by decide +kernel
theorem q7_35 {dA : Nat → ClassId} {d : Nat} {st : List Value} {f : pz_F} {Q : Option Value → pz_F → Prop} {v0 v1 : Value} {a : Nat} : pz_R dA d 7 35 [v0, v1] (.ref a :: st) f Q = pz_o (pz_gf f a 0 0) (fun v => pz_R dA d 7 38 [v0, v1] (v :: st) f Q) := pz_gg d7_35 rfl
theorem d7_38 : decode (pz_b 7) 38 = .ok (.invokevirtual 111, 3) := by decide +kernel
theorem q7_38 {dA : Nat → ClassId} {d : Nat} {st : List Value} {f : pz_F} {Q : Option Value → pz_F → Prop} {v0 v1 : Value} {c0 : Int32} {b : Nat} (hr : st.length ≤ 4) : pz_R dA (d + 1) 7 38 [v0, v1] (.int c0 :: .ref b :: st) f Q = pz_o (pz_gu f b 1) (fun _ => pz_C dA d 39 [.ref b, .int c0] f (fun r f' => pz_R dA (d + 1) 7 41 [v0, v1] (r.toList ++ st) f' Q)) := pz_gcv (As := [.int c0]) d7_38 rfl rfl rfl hr
theorem d7_41 : decode (pz_b 7) 41 = .ok (.iconst 1, 1) := by decide +kernel
theorem q7_41 {dA : Nat → ClassId} {d : Nat} {st : List Value} {f : pz_F} {Q : Option Value → pz_F → Prop} {v0 v1 : Value} : pz_R dA d 7 41 [v0, v1] st f Q = pz_R dA d 7 42 [v0, v1] (.int 1 :: st) f Q := pz_go (pz_so d7_41 rfl)
theorem d7_42 : decode (pz_b 7) 42 = .ok (.ireturn, 1) := by decide +kernel
theorem q7_42z {dA : Nat → ClassId} {d : Nat} {f : pz_F} {Q : Option Value → pz_F → Prop} {v0 v1 : Value} : pz_R dA d 7 42 [v0, v1] [.int 0] f Q = Q (some (.int 0)) f := pz_gri d7_42 rfl rfl
theorem q7_42o {dA : Nat → ClassId} {d : Nat} {f : pz_F} {Q : Option Value → pz_F → Prop} {v0 v1 : Value} : pz_R dA d 7 42 [v0, v1] [.int 1] f Q = Q (some (.int 1)) f := pz_gri d7_42 rfl rfl
/-! P_alone (I)Z -/
theorem e8 {dA : Nat → ClassId} {d : Nat} {f : pz_F} {Q : Option Value → pz_F → Prop} {a0 : Nat} {a1 : Int32} : pz_C dA d 8 [.ref a0, .int a1] f Q = pz_R dA d 8 0 [.ref a0, .int a1, .retAddr 0] [] f Q := rfl
theorem d8_0 : decode (pz_b 8) 0 = .ok (.iload_n 1, 1) := by decide +kernel
theorem q8_0 {dA : Nat → ClassId} {d : Nat} {st : List Value} {f : pz_F} {Q : Option Value → pz_F → Prop} {v0 v2 : Value} {x : Int32} : pz_R dA d 8 0 [v0, .int x, v2] st f Q = pz_R dA d 8 1 [v0, .int x, v2] (.int x :: st) f Q := pz_go (pz_so d8_0 rfl)
theorem d8_1 : decode (pz_b 8) 1 = .ok (.invokestatic 57, 3) := by decide +kernel
theorem q8_1 {dA : Nat → ClassId} {d : Nat} {st : List Value} {f : pz_F} {Q : Option Value → pz_F → Prop} {v0 v1 v2 : Value} {c0 : Int32} (hr : st.length ≤ 4) : pz_R dA (d + 1) 8 1 [v0, v1, v2] (.int c0 :: st) f Q = pz_C dA d 15 [.int c0] f (fun r f' => pz_R dA (d + 1) 8 4 [v0, v1, v2] (r.toList ++ st) f' Q) := pz_gcs (As := [.int c0]) d8_1 rfl rfl rfl hr
theorem d8_4 : decode (pz_b 8) 4 = .ok (.ifCond .eq 19, 3) := by decide +kernel
theorem q8_4 {dA : Nat → ClassId} {d : Nat} {st : List Value} {f : pz_F} {Q : Option Value → pz_F → Prop} {v0 v1 v2 : Value} {x : Int32} : pz_R dA d 8 4 [v0, v1, v2] (.int x :: st) f Q = (if x = 0 then pz_R dA d 8 23 [v0, v1, v2] st f Q else pz_R dA d 8 7 [v0, v1, v2] st f Q) := pz_gj1 .eq d8_4 rfl
theorem d8_7 : decode (pz_b 8) 7 = .ok (.aload_n 0, 1) := by decide +kernel
theorem q8_7 {dA : Nat → ClassId} {d : Nat} {st : List Value} {f : pz_F} {Q : Option Value → pz_F → Prop} {v1 v2 : Value} {x : Nat} : pz_R dA d 8 7 [.ref x, v1, v2] st f Q = pz_R dA d 8 8 [.ref x, v1, v2] (.ref x :: st) f Q := pz_go (pz_so d8_7 rfl)
theorem d8_8 : decode (pz_b 8) 8 = .ok (.aload_n 0, 1) := by decide +kernel
theorem q8_8 {dA : Nat → ClassId} {d : Nat} {st : List Value} {f : pz_F} {Q : Option Value → pz_F → Prop} {v1 v2 : Value} {x : Nat} : pz_R dA d 8 8 [.ref x, v1, v2] st f Q = pz_R dA d 8 9 [.ref x, v1, v2] (.ref x :: st) f Q := pz_go (pz_so d8_8 rfl)
theorem d8_9 : decode (pz_b 8) 9 = .ok (.getfield 19, 3) := by decide +kernel
theorem q8_9 {dA : Nat → ClassId} {d : Nat} {st : List Value} {f : pz_F} {Q : Option Value → pz_F → Prop} {v0 v1 v2 : Value} {a : Nat} : pz_R dA d 8 9 [v0, v1, v2] (.ref a :: st) f Q = pz_o (pz_gf f a 0 2) (fun v => pz_R dA d 8 12 [v0, v1, v2] (v :: st) f Q) := pz_gg d8_9 rfl
theorem d8_12 : decode (pz_b 8) 12 = .ok (.iload_n 1, 1) := by decide +kernel
theorem q8_12 {dA : Nat → ClassId} {d : Nat} {st : List Value} {f : pz_F} {Q : Option Value → pz_F → Prop} {v0 v2 : Value} {x : Int32} : pz_R dA d 8 12 [v0, .int x, v2] st f Q = pz_R dA d 8 13 [v0, .int x, v2] (.int x :: st) f Q := pz_go (pz_so d8_12 rfl)
theorem d8_13 : decode (pz_b 8) 13 = .ok (.aaload, 1) := by decide +kernel
theorem q8_13 {dA : Nat → ClassId} {d : Nat} {st : List Value} {f : pz_F} {Q : Option Value → pz_F → Prop} {v0 v1 v2 : Value} {i : Int32} {a : Nat} : pz_R dA d 8 13 [v0, v1, v2] (.int i :: .ref a :: st) f Q = pz_o (pz_rl dA f a i) (fun v => pz_R dA d 8 14 [v0, v1, v2] (v :: st) f Q) := pz_grl d8_13
theorem d8_14 : decode (pz_b 8) 14 = .ok (.invokevirtual 114, 3) := by decide +kernel
theorem q8_14 {dA : Nat → ClassId} {d : Nat} {st : List Value} {f : pz_F} {Q : Option Value → pz_F → Prop} {v0 v1 v2 : Value} {c0 : Nat} {b : Nat} (hr : st.length ≤ 4) : pz_R dA (d + 1) 8 14 [v0, v1, v2] (.ref c0 :: .ref b :: st) f Q = pz_o (pz_gu f b 0) (fun _ => pz_C dA d 18 [.ref b, .ref c0] f (fun r f' => pz_R dA (d + 1) 8 17 [v0, v1, v2] (r.toList ++ st) f' Q)) := pz_gcv (As := [.ref c0]) d8_14 rfl rfl rfl hr
theorem d8_17 : decode (pz_b 8) 17 = .ok (.getfield 46, 3) := by decide +kernel
theorem q8_17 {dA : Nat → ClassId} {d : Nat} {st : List Value} {f : pz_F} {Q : Option Value → pz_F → Prop} {v0 v1 v2 : Value} {a : Nat} : pz_R dA d 8 17 [v0, v1, v2] (.ref a :: st) f Q = pz_o (pz_gf f a 1 2) (fun v => pz_R dA d 8 20 [v0, v1, v2] (v :: st) f Q) := pz_gg d8_17 rfl
theorem d8_20 : decode (pz_b 8) 20 = .ok (.ifCond .eq 5, 3) := by decide +kernel
theorem q8_20 {dA : Nat → ClassId} {d : Nat} {st : List Value} {f : pz_F} {Q : Option Value → pz_F → Prop} {v0 v1 v2 : Value} {x : Int32} : pz_R dA d 8 20 [v0, v1, v2] (.int x :: st) f Q = (if x = 0 then pz_R dA d 8 25 [v0, v1, v2] st f Q else pz_R dA d 8 23 [v0, v1, v2] st f Q) := pz_gj1 .eq d8_20 rfl
theorem d8_23 : decode (pz_b 8) 23 = .ok (.iconst 0, 1) := by decide +kernel
theorem q8_23 {dA : Nat → ClassId} {d : Nat} {st : List Value} {f : pz_F} {Q : Option Value → pz_F → Prop} {v0 v1 v2 : Value} : pz_R dA d 8 23 [v0, v1, v2] st f Q = pz_R dA d 8 24 [v0, v1, v2] (.int 0 :: st) f Q := pz_go (pz_so d8_23 rfl)
theorem d8_24 : decode (pz_b 8) 24 = .ok (.ireturn, 1) := by decide +kernel
theorem q8_24z {dA : Nat → ClassId} {d : Nat} {f : pz_F} {Q : Option Value → pz_F → Prop} {v0 v1 v2 : Value} : pz_R dA d 8 24 [v0, v1, v2] [.int 0] f Q = Q (some (.int 0)) f := pz_gri d8_24 rfl rfl
theorem q8_24o {dA : Nat → ClassId} {d : Nat} {f : pz_F} {Q : Option Value → pz_F → Prop} {v0 v1 v2 : Value} : pz_R dA d 8 24 [v0, v1, v2] [.int 1] f Q = Q (some (.int 1)) f := pz_gri d8_24 rfl rfl
theorem d8_25 : decode (pz_b 8) 25 = .ok (.aload_n 0, 1) := by decide +kernel
theorem q8_25 {dA : Nat → ClassId} {d : Nat} {st : List Value} {f : pz_F} {Q : Option Value → pz_F → Prop} {v1 v2 : Value} {x : Nat} : pz_R dA d 8 25 [.ref x, v1, v2] st f Q = pz_R dA d 8 26 [.ref x, v1, v2] (.ref x :: st) f Q := pz_go (pz_so d8_25 rfl)
theorem d8_26 : decode (pz_b 8) 26 = .ok (.getfield 19, 3) := by decide +kernel
theorem q8_26 {dA : Nat → ClassId} {d : Nat} {st : List Value} {f : pz_F} {Q : Option Value → pz_F → Prop} {v0 v1 v2 : Value} {a : Nat} : pz_R dA d 8 26 [v0, v1, v2] (.ref a :: st) f Q = pz_o (pz_gf f a 0 2) (fun v => pz_R dA d 8 29 [v0, v1, v2] (v :: st) f Q) := pz_gg d8_26 rfl
theorem d8_29 : decode (pz_b 8) 29 = .ok (.iload_n 1, 1) := by decide +kernel
theorem q8_29 {dA : Nat → ClassId} {d : Nat} {st : List Value} {f : pz_F} {Q : Option Value → pz_F → Prop} {v0 v2 : Value} {x : Int32} : pz_R dA d 8 29 [v0, .int x, v2] st f Q = pz_R dA d 8 30 [v0, .int x, v2] (.int x :: st) f Q := pz_go (pz_so d8_29 rfl)
theorem d8_30 : decode (pz_b 8) 30 = .ok (.aaload, 1) := by decide +kernel
theorem q8_30 {dA : Nat → ClassId} {d : Nat} {st : List Value} {f : pz_F} {Q : Option Value → pz_F → Prop} {v0 v1 v2 : Value} {i : Int32} {a : Nat} : pz_R dA d 8 30 [v0, v1, v2] (.int i :: .ref a :: st) f Q = pz_o (pz_rl dA f a i) (fun v => pz_R dA d 8 31 [v0, v1, v2] (v :: st) f Q) := pz_grl d8_30
theorem d8_31 : decode (pz_b 8) 31 = .ok (.astore_n 2, 1) := by decide +kernel
theorem q8_31 {dA : Nat → ClassId} {d : Nat} {st : List Value} {f : pz_F} {Q : Option Value → pz_F → Prop} {v0 v1 v2 : Value} {x : Nat} : pz_R dA d 8 31 [v0, v1, v2] (.ref x :: st) f Q = pz_R dA d 8 32 [v0, v1, .ref x] st f Q := pz_go (pz_so d8_31 rfl)
theorem q8_31n {dA : Nat → ClassId} {d : Nat} {st : List Value} {f : pz_F} {Q : Option Value → pz_F → Prop} {v0 v1 v2 : Value} : pz_R dA d 8 31 [v0, v1, v2] (.null :: st) f Q = pz_R dA d 8 32 [v0, v1, .null] st f Q := pz_go (pz_so d8_31 rfl)
theorem d8_32 : decode (pz_b 8) 32 = .ok (.aload_n 2, 1) := by decide +kernel
theorem q8_32 {dA : Nat → ClassId} {d : Nat} {st : List Value} {f : pz_F} {Q : Option Value → pz_F → Prop} {v0 v1 : Value} {x : Nat} : pz_R dA d 8 32 [v0, v1, .ref x] st f Q = pz_R dA d 8 33 [v0, v1, .ref x] (.ref x :: st) f Q := pz_go (pz_so d8_32 rfl)
theorem q8_32n {dA : Nat → ClassId} {d : Nat} {st : List Value} {f : pz_F} {Q : Option Value → pz_F → Prop} {v0 v1 : Value} : pz_R dA d 8 32 [v0, v1, .null] st f Q = pz_R dA d 8 33 [v0, v1, .null] (.null :: st) f Q := pz_go (pz_so d8_32 rfl)
theorem d8_33 : decode (pz_b 8) 33 = .ok (.getfield 46, 3) := by decide +kernel
theorem q8_33 {dA : Nat → ClassId} {d : Nat} {st : List Value} {f : pz_F} {Q : Option Value → pz_F → Prop} {v0 v1 v2 : Value} {a : Nat} : pz_R dA d 8 33 [v0, v1, v2] (.ref a :: st) f Q = pz_o (pz_gf f a 1 2) (fun v => pz_R dA d 8 36 [v0, v1, v2] (v :: st) f Q) := pz_gg d8_33 rfl
theorem d8_36 : decode (pz_b 8) 36 = .ok (.iconst 1, 1) := by decide +kernel
theorem q8_36 {dA : Nat → ClassId} {d : Nat} {st : List Value} {f : pz_F} {Q : Option Value → pz_F → Prop} {v0 v1 v2 : Value} : pz_R dA d 8 36 [v0, v1, v2] st f Q = pz_R dA d 8 37 [v0, v1, v2] (.int 1 :: st) f Q := pz_go (pz_so d8_36 rfl)
theorem d8_37 : decode (pz_b 8) 37 = .ok (.if_icmp .eq 13, 3) := by decide +kernel
theorem q8_37 {dA : Nat → ClassId} {d : Nat} {st : List Value} {f : pz_F} {Q : Option Value → pz_F → Prop} {v0 v1 v2 : Value} {x y : Int32} : pz_R dA d 8 37 [v0, v1, v2] (.int y :: .int x :: st) f Q = (if x = y then pz_R dA d 8 50 [v0, v1, v2] st f Q else pz_R dA d 8 40 [v0, v1, v2] st f Q) := pz_gjn .eq d8_37 rfl
theorem d8_40 : decode (pz_b 8) 40 = .ok (.aload_n 2, 1) := by decide +kernel
theorem q8_40 {dA : Nat → ClassId} {d : Nat} {st : List Value} {f : pz_F} {Q : Option Value → pz_F → Prop} {v0 v1 : Value} {x : Nat} : pz_R dA d 8 40 [v0, v1, .ref x] st f Q = pz_R dA d 8 41 [v0, v1, .ref x] (.ref x :: st) f Q := pz_go (pz_so d8_40 rfl)
theorem q8_40n {dA : Nat → ClassId} {d : Nat} {st : List Value} {f : pz_F} {Q : Option Value → pz_F → Prop} {v0 v1 : Value} : pz_R dA d 8 40 [v0, v1, .null] st f Q = pz_R dA d 8 41 [v0, v1, .null] (.null :: st) f Q := pz_go (pz_so d8_40 rfl)
theorem d8_41 : decode (pz_b 8) 41 = .ok (.getfield 46, 3) := by decide +kernel
theorem q8_41 {dA : Nat → ClassId} {d : Nat} {st : List Value} {f : pz_F} {Q : Option Value → pz_F → Prop} {v0 v1 v2 : Value} {a : Nat} : pz_R dA d 8 41 [v0, v1, v2] (.ref a :: st) f Q = pz_o (pz_gf f a 1 2) (fun v => pz_R dA d 8 44 [v0, v1, v2] (v :: st) f Q) := pz_gg d8_41 rfl
theorem d8_44 : decode (pz_b 8) 44 = .ok (.iconst 2, 1) := by decide +kernel
theorem q8_44 {dA : Nat → ClassId} {d : Nat} {st : List Value} {f : pz_F} {Q : Option Value → pz_F → Prop} {v0 v1 v2 : Value} : pz_R dA d 8 44 [v0, v1, v2] st f Q = pz_R dA d 8 45 [v0, v1, v2] (.int 2 :: st) f Q := pz_go (pz_so d8_44 rfl)
theorem d8_45 : decode (pz_b 8) 45 = .ok (.if_icmp .eq 5, 3) := by decide +kernel
theorem q8_45 {dA : Nat → ClassId} {d : Nat} {st : List Value} {f : pz_F} {Q : Option Value → pz_F → Prop} {v0 v1 v2 : Value} {x y : Int32} : pz_R dA d 8 45 [v0, v1, v2] (.int y :: .int x :: st) f Q = (if x = y then pz_R dA d 8 50 [v0, v1, v2] st f Q else pz_R dA d 8 48 [v0, v1, v2] st f Q) := pz_gjn .eq d8_45 rfl
theorem d8_48 : decode (pz_b 8) 48 = .ok (.iconst 0, 1) := by decide +kernel
theorem q8_48 {dA : Nat → ClassId} {d : Nat} {st : List Value} {f : pz_F} {Q : Option Value → pz_F → Prop} {v0 v1 v2 : Value} : pz_R dA d 8 48 [v0, v1, v2] st f Q = pz_R dA d 8 49 [v0, v1, v2] (.int 0 :: st) f Q := pz_go (pz_so d8_48 rfl)
theorem d8_49 : decode (pz_b 8) 49 = .ok (.ireturn, 1) := by decide +kernel
theorem q8_49z {dA : Nat → ClassId} {d : Nat} {f : pz_F} {Q : Option Value → pz_F → Prop} {v0 v1 v2 : Value} : pz_R dA d 8 49 [v0, v1, v2] [.int 0] f Q = Q (some (.int 0)) f := pz_gri d8_49 rfl rfl
theorem q8_49o {dA : Nat → ClassId} {d : Nat} {f : pz_F} {Q : Option Value → pz_F → Prop} {v0 v1 v2 : Value} : pz_R dA d 8 49 [v0, v1, v2] [.int 1] f Q = Q (some (.int 1)) f := pz_gri d8_49 rfl rfl
theorem d8_50 : decode (pz_b 8) 50 = .ok (.aload_n 2, 1) := by decide +kernel
theorem q8_50 {dA : Nat → ClassId} {d : Nat} {st : List Value} {f : pz_F} {Q : Option Value → pz_F → Prop} {v0 v1 : Value} {x : Nat} : pz_R dA d 8 50 [v0, v1, .ref x] st f Q = pz_R dA d 8 51 [v0, v1, .ref x] (.ref x :: st) f Q := pz_go (pz_so d8_50 rfl)
theorem q8_50n {dA : Nat → ClassId} {d : Nat} {st : List Value} {f : pz_F} {Q : Option Value → pz_F → Prop} {v0 v1 : Value} : pz_R dA d 8 50 [v0, v1, .null] st f Q = pz_R dA d 8 51 [v0, v1, .null] (.null :: st) f Q := pz_go (pz_so d8_50 rfl)
theorem d8_51 : decode (pz_b 8) 51 = .ok (.iconst 3, 1) := by decide +kernel
theorem q8_51 {dA : Nat → ClassId} {d : Nat} {st : List Value} {f : pz_F} {Q : Option Value → pz_F → Prop} {v0 v1 v2 : Value} : pz_R dA d 8 51 [v0, v1, v2] st f Q = pz_R dA d 8 52 [v0, v1, v2] (.int 3 :: st) f Q := pz_go (pz_so d8_51 rfl)
theorem d8_52 : decode (pz_b 8) 52 = .ok (.putfield 46, 3) := by decide +kernel
theorem q8_52 {dA : Nat → ClassId} {d : Nat} {st : List Value} {f : pz_F} {Q : Option Value → pz_F → Prop} {v0 v1 v2 : Value} {x : Int32} {a : Nat} : pz_R dA d 8 52 [v0, v1, v2] (.int x :: .ref a :: st) f Q = pz_o (pz_pf f a 1 2 (.int x)) (fun f' => pz_R dA d 8 55 [v0, v1, v2] st f' Q) := pz_gp d8_52 rfl rfl rfl rfl
theorem d8_55 : decode (pz_b 8) 55 = .ok (.aload_n 2, 1) := by decide +kernel
theorem q8_55 {dA : Nat → ClassId} {d : Nat} {st : List Value} {f : pz_F} {Q : Option Value → pz_F → Prop} {v0 v1 : Value} {x : Nat} : pz_R dA d 8 55 [v0, v1, .ref x] st f Q = pz_R dA d 8 56 [v0, v1, .ref x] (.ref x :: st) f Q := pz_go (pz_so d8_55 rfl)
theorem q8_55n {dA : Nat → ClassId} {d : Nat} {st : List Value} {f : pz_F} {Q : Option Value → pz_F → Prop} {v0 v1 : Value} : pz_R dA d 8 55 [v0, v1, .null] st f Q = pz_R dA d 8 56 [v0, v1, .null] (.null :: st) f Q := pz_go (pz_so d8_55 rfl)
theorem d8_56 : decode (pz_b 8) 56 = .ok (.aload_n 0, 1) := by decide +kernel
theorem q8_56 {dA : Nat → ClassId} {d : Nat} {st : List Value} {f : pz_F} {Q : Option Value → pz_F → Prop} {v1 v2 : Value} {x : Nat} : pz_R dA d 8 56 [.ref x, v1, v2] st f Q = pz_R dA d 8 57 [.ref x, v1, v2] (.ref x :: st) f Q := pz_go (pz_so d8_56 rfl)
theorem d8_57 : decode (pz_b 8) 57 = .ok (.getfield 7, 3) := by decide +kernel
theorem q8_57 {dA : Nat → ClassId} {d : Nat} {st : List Value} {f : pz_F} {Q : Option Value → pz_F → Prop} {v0 v1 v2 : Value} {a : Nat} : pz_R dA d 8 57 [v0, v1, v2] (.ref a :: st) f Q = pz_o (pz_gf f a 0 0) (fun v => pz_R dA d 8 60 [v0, v1, v2] (v :: st) f Q) := pz_gg d8_57 rfl
theorem d8_60 : decode (pz_b 8) 60 = .ok (.putfield 118, 3) := by decide +kernel
theorem q8_60 {dA : Nat → ClassId} {d : Nat} {st : List Value} {f : pz_F} {Q : Option Value → pz_F → Prop} {v0 v1 v2 : Value} {x : Int32} {a : Nat} : pz_R dA d 8 60 [v0, v1, v2] (.int x :: .ref a :: st) f Q = pz_o (pz_pf f a 1 3 (.int x)) (fun f' => pz_R dA d 8 63 [v0, v1, v2] st f' Q) := pz_gp d8_60 rfl rfl rfl rfl
theorem d8_63 : decode (pz_b 8) 63 = .ok (.iconst 1, 1) := by decide +kernel
theorem q8_63 {dA : Nat → ClassId} {d : Nat} {st : List Value} {f : pz_F} {Q : Option Value → pz_F → Prop} {v0 v1 v2 : Value} : pz_R dA d 8 63 [v0, v1, v2] st f Q = pz_R dA d 8 64 [v0, v1, v2] (.int 1 :: st) f Q := pz_go (pz_so d8_63 rfl)
theorem d8_64 : decode (pz_b 8) 64 = .ok (.ireturn, 1) := by decide +kernel
theorem q8_64z {dA : Nat → ClassId} {d : Nat} {f : pz_F} {Q : Option Value → pz_F → Prop} {v0 v1 v2 : Value} : pz_R dA d 8 64 [v0, v1, v2] [.int 0] f Q = Q (some (.int 0)) f := pz_gri d8_64 rfl rfl
theorem q8_64o {dA : Nat → ClassId} {d : Nat} {f : pz_F} {Q : Option Value → pz_F → Prop} {v0 v1 v2 : Value} : pz_R dA d 8 64 [v0, v1, v2] [.int 1] f Q = Q (some (.int 1)) f := pz_gri d8_64 rfl rfl
/-! P_link (Z)Z -/
theorem e9 {dA : Nat → ClassId} {d : Nat} {f : pz_F} {Q : Option Value → pz_F → Prop} {a0 : Nat} {a1 : Int32} : pz_C dA d 9 [.ref a0, .int a1] f Q = pz_R dA d 9 0 [.ref a0, .int a1] [] f Q := rfl
theorem d9_0 : decode (pz_b 9) 0 = .ok (.aload_n 0, 1) := by decide +kernel
theorem q9_0 {dA : Nat → ClassId} {d : Nat} {st : List Value} {f : pz_F} {Q : Option Value → pz_F → Prop} {v1 : Value} {x : Nat} : pz_R dA d 9 0 [.ref x, v1] st f Q = pz_R dA d 9 1 [.ref x, v1] (.ref x :: st) f Q := pz_go (pz_so d9_0 rfl)
theorem d9_1 : decode (pz_b 9) 1 = .ok (.getfield 13, 3) := by decide +kernel
theorem q9_1 {dA : Nat → ClassId} {d : Nat} {st : List Value} {f : pz_F} {Q : Option Value → pz_F → Prop} {v0 v1 : Value} {a : Nat} : pz_R dA d 9 1 [v0, v1] (.ref a :: st) f Q = pz_o (pz_gf f a 0 1) (fun v => pz_R dA d 9 4 [v0, v1] (v :: st) f Q) := pz_gg d9_1 rfl
theorem d9_4 : decode (pz_b 9) 4 = .ok (.iload_n 1, 1) := by decide +kernel
theorem q9_4 {dA : Nat → ClassId} {d : Nat} {st : List Value} {f : pz_F} {Q : Option Value → pz_F → Prop} {v0 : Value} {x : Int32} : pz_R dA d 9 4 [v0, .int x] st f Q = pz_R dA d 9 5 [v0, .int x] (.int x :: st) f Q := pz_go (pz_so d9_4 rfl)
theorem d9_5 : decode (pz_b 9) 5 = .ok (.if_icmp .ne 5, 3) := by decide +kernel
theorem q9_5 {dA : Nat → ClassId} {d : Nat} {st : List Value} {f : pz_F} {Q : Option Value → pz_F → Prop} {v0 v1 : Value} {x y : Int32} : pz_R dA d 9 5 [v0, v1] (.int y :: .int x :: st) f Q = (if x = y then pz_R dA d 9 8 [v0, v1] st f Q else pz_R dA d 9 10 [v0, v1] st f Q) := pz_gjn .ne d9_5 rfl
theorem d9_8 : decode (pz_b 9) 8 = .ok (.iconst 0, 1) := by decide +kernel
theorem q9_8 {dA : Nat → ClassId} {d : Nat} {st : List Value} {f : pz_F} {Q : Option Value → pz_F → Prop} {v0 v1 : Value} : pz_R dA d 9 8 [v0, v1] st f Q = pz_R dA d 9 9 [v0, v1] (.int 0 :: st) f Q := pz_go (pz_so d9_8 rfl)
theorem d9_9 : decode (pz_b 9) 9 = .ok (.ireturn, 1) := by decide +kernel
theorem q9_9z {dA : Nat → ClassId} {d : Nat} {f : pz_F} {Q : Option Value → pz_F → Prop} {v0 v1 : Value} : pz_R dA d 9 9 [v0, v1] [.int 0] f Q = Q (some (.int 0)) f := pz_gri d9_9 rfl rfl
theorem q9_9o {dA : Nat → ClassId} {d : Nat} {f : pz_F} {Q : Option Value → pz_F → Prop} {v0 v1 : Value} : pz_R dA d 9 9 [v0, v1] [.int 1] f Q = Q (some (.int 1)) f := pz_gri d9_9 rfl rfl
theorem d9_10 : decode (pz_b 9) 10 = .ok (.aload_n 0, 1) := by decide +kernel
theorem q9_10 {dA : Nat → ClassId} {d : Nat} {st : List Value} {f : pz_F} {Q : Option Value → pz_F → Prop} {v1 : Value} {x : Nat} : pz_R dA d 9 10 [.ref x, v1] st f Q = pz_R dA d 9 11 [.ref x, v1] (.ref x :: st) f Q := pz_go (pz_so d9_10 rfl)
theorem d9_11 : decode (pz_b 9) 11 = .ok (.iload_n 1, 1) := by decide +kernel
theorem q9_11 {dA : Nat → ClassId} {d : Nat} {st : List Value} {f : pz_F} {Q : Option Value → pz_F → Prop} {v0 : Value} {x : Int32} : pz_R dA d 9 11 [v0, .int x] st f Q = pz_R dA d 9 12 [v0, .int x] (.int x :: st) f Q := pz_go (pz_so d9_11 rfl)
theorem d9_12 : decode (pz_b 9) 12 = .ok (.putfield 13, 3) := by decide +kernel
theorem q9_12z {dA : Nat → ClassId} {d : Nat} {st : List Value} {f : pz_F} {Q : Option Value → pz_F → Prop} {v0 v1 : Value} {a : Nat} : pz_R dA d 9 12 [v0, v1] (.int 0 :: .ref a :: st) f Q = pz_o (pz_pf f a 0 1 (.int 0)) (fun f' => pz_R dA d 9 15 [v0, v1] st f' Q) := pz_gp d9_12 rfl rfl rfl rfl
theorem q9_12o {dA : Nat → ClassId} {d : Nat} {st : List Value} {f : pz_F} {Q : Option Value → pz_F → Prop} {v0 v1 : Value} {a : Nat} : pz_R dA d 9 12 [v0, v1] (.int 1 :: .ref a :: st) f Q = pz_o (pz_pf f a 0 1 (.int 1)) (fun f' => pz_R dA d 9 15 [v0, v1] st f' Q) := pz_gp d9_12 rfl rfl rfl rfl
theorem d9_15 : decode (pz_b 9) 15 = .ok (.iconst 1, 1) := by decide +kernel
theorem q9_15 {dA : Nat → ClassId} {d : Nat} {st : List Value} {f : pz_F} {Q : Option Value → pz_F → Prop} {v0 v1 : Value} : pz_R dA d 9 15 [v0, v1] st f Q = pz_R dA d 9 16 [v0, v1] (.int 1 :: st) f Q := pz_go (pz_so d9_15 rfl)
theorem d9_16 : decode (pz_b 9) 16 = .ok (.ireturn, 1) := by decide +kernel
theorem q9_16z {dA : Nat → ClassId} {d : Nat} {f : pz_F} {Q : Option Value → pz_F → Prop} {v0 v1 : Value} : pz_R dA d 9 16 [v0, v1] [.int 0] f Q = Q (some (.int 0)) f := pz_gri d9_16 rfl rfl
theorem q9_16o {dA : Nat → ClassId} {d : Nat} {f : pz_F} {Q : Option Value → pz_F → Prop} {v0 v1 : Value} : pz_R dA d 9 16 [v0, v1] [.int 1] f Q = Q (some (.int 1)) f := pz_gri d9_16 rfl rfl
/-! P_state (I)I -/
theorem e10 {dA : Nat → ClassId} {d : Nat} {f : pz_F} {Q : Option Value → pz_F → Prop} {a0 : Nat} {a1 : Int32} : pz_C dA d 10 [.ref a0, .int a1] f Q = pz_R dA d 10 0 [.ref a0, .int a1] [] f Q := rfl
theorem d10_0 : decode (pz_b 10) 0 = .ok (.iload_n 1, 1) := by decide +kernel
theorem q10_0 {dA : Nat → ClassId} {d : Nat} {st : List Value} {f : pz_F} {Q : Option Value → pz_F → Prop} {v0 : Value} {x : Int32} : pz_R dA d 10 0 [v0, .int x] st f Q = pz_R dA d 10 1 [v0, .int x] (.int x :: st) f Q := pz_go (pz_so d10_0 rfl)
theorem d10_1 : decode (pz_b 10) 1 = .ok (.invokestatic 57, 3) := by decide +kernel
theorem q10_1 {dA : Nat → ClassId} {d : Nat} {st : List Value} {f : pz_F} {Q : Option Value → pz_F → Prop} {v0 v1 : Value} {c0 : Int32} (hr : st.length ≤ 4) : pz_R dA (d + 1) 10 1 [v0, v1] (.int c0 :: st) f Q = pz_C dA d 15 [.int c0] f (fun r f' => pz_R dA (d + 1) 10 4 [v0, v1] (r.toList ++ st) f' Q) := pz_gcs (As := [.int c0]) d10_1 rfl rfl rfl hr
theorem d10_4 : decode (pz_b 10) 4 = .ok (.ifCond .eq 15, 3) := by decide +kernel
theorem q10_4 {dA : Nat → ClassId} {d : Nat} {st : List Value} {f : pz_F} {Q : Option Value → pz_F → Prop} {v0 v1 : Value} {x : Int32} : pz_R dA d 10 4 [v0, v1] (.int x :: st) f Q = (if x = 0 then pz_R dA d 10 19 [v0, v1] st f Q else pz_R dA d 10 7 [v0, v1] st f Q) := pz_gj1 .eq d10_4 rfl
theorem d10_7 : decode (pz_b 10) 7 = .ok (.aload_n 0, 1) := by decide +kernel
theorem q10_7 {dA : Nat → ClassId} {d : Nat} {st : List Value} {f : pz_F} {Q : Option Value → pz_F → Prop} {v1 : Value} {x : Nat} : pz_R dA d 10 7 [.ref x, v1] st f Q = pz_R dA d 10 8 [.ref x, v1] (.ref x :: st) f Q := pz_go (pz_so d10_7 rfl)
theorem d10_8 : decode (pz_b 10) 8 = .ok (.getfield 19, 3) := by decide +kernel
theorem q10_8 {dA : Nat → ClassId} {d : Nat} {st : List Value} {f : pz_F} {Q : Option Value → pz_F → Prop} {v0 v1 : Value} {a : Nat} : pz_R dA d 10 8 [v0, v1] (.ref a :: st) f Q = pz_o (pz_gf f a 0 2) (fun v => pz_R dA d 10 11 [v0, v1] (v :: st) f Q) := pz_gg d10_8 rfl
theorem d10_11 : decode (pz_b 10) 11 = .ok (.iload_n 1, 1) := by decide +kernel
theorem q10_11 {dA : Nat → ClassId} {d : Nat} {st : List Value} {f : pz_F} {Q : Option Value → pz_F → Prop} {v0 : Value} {x : Int32} : pz_R dA d 10 11 [v0, .int x] st f Q = pz_R dA d 10 12 [v0, .int x] (.int x :: st) f Q := pz_go (pz_so d10_11 rfl)
theorem d10_12 : decode (pz_b 10) 12 = .ok (.aaload, 1) := by decide +kernel
theorem q10_12 {dA : Nat → ClassId} {d : Nat} {st : List Value} {f : pz_F} {Q : Option Value → pz_F → Prop} {v0 v1 : Value} {i : Int32} {a : Nat} : pz_R dA d 10 12 [v0, v1] (.int i :: .ref a :: st) f Q = pz_o (pz_rl dA f a i) (fun v => pz_R dA d 10 13 [v0, v1] (v :: st) f Q) := pz_grl d10_12
theorem d10_13 : decode (pz_b 10) 13 = .ok (.getfield 46, 3) := by decide +kernel
theorem q10_13 {dA : Nat → ClassId} {d : Nat} {st : List Value} {f : pz_F} {Q : Option Value → pz_F → Prop} {v0 v1 : Value} {a : Nat} : pz_R dA d 10 13 [v0, v1] (.ref a :: st) f Q = pz_o (pz_gf f a 1 2) (fun v => pz_R dA d 10 16 [v0, v1] (v :: st) f Q) := pz_gg d10_13 rfl
theorem d10_16 : decode (pz_b 10) 16 = .ok (.goto 4, 3) := by decide +kernel
theorem q10_16 {dA : Nat → ClassId} {d : Nat} {st : List Value} {f : pz_F} {Q : Option Value → pz_F → Prop} {v0 v1 : Value} : pz_R dA d 10 16 [v0, v1] st f Q = pz_R dA d 10 20 [v0, v1] st f Q := pz_go (pz_so d10_16 rfl)
theorem d10_19 : decode (pz_b 10) 19 = .ok (.iconst (-1), 1) := by decide +kernel
theorem q10_19 {dA : Nat → ClassId} {d : Nat} {st : List Value} {f : pz_F} {Q : Option Value → pz_F → Prop} {v0 v1 : Value} : pz_R dA d 10 19 [v0, v1] st f Q = pz_R dA d 10 20 [v0, v1] (.int (-1) :: st) f Q := pz_go (pz_so d10_19 rfl)
theorem d10_20 : decode (pz_b 10) 20 = .ok (.ireturn, 1) := by decide +kernel
theorem q10_20 {dA : Nat → ClassId} {d : Nat} {f : pz_F} {Q : Option Value → pz_F → Prop} {v0 v1 : Value} {x : Int32} : pz_R dA d 10 20 [v0, v1] [.int x] f Q = Q (some (.int x)) f := pz_gri d10_20 rfl rfl
/-! P_entry (III)I -/
theorem e11 {dA : Nat → ClassId} {d : Nat} {f : pz_F} {Q : Option Value → pz_F → Prop} {a0 : Nat} {a1 : Int32} {a2 : Int32} {a3 : Int32} : pz_C dA d 11 [.ref a0, .int a1, .int a2, .int a3] f Q = pz_R dA d 11 0 [.ref a0, .int a1, .int a2, .int a3] [] f Q := rfl
theorem d11_0 : decode (pz_b 11) 0 = .ok (.iload_n 1, 1) := by decide +kernel
theorem q11_0 {dA : Nat → ClassId} {d : Nat} {st : List Value} {f : pz_F} {Q : Option Value → pz_F → Prop} {v0 v2 v3 : Value} {x : Int32} : pz_R dA d 11 0 [v0, .int x, v2, v3] st f Q = pz_R dA d 11 1 [v0, .int x, v2, v3] (.int x :: st) f Q := pz_go (pz_so d11_0 rfl)
theorem d11_1 : decode (pz_b 11) 1 = .ok (.invokestatic 57, 3) := by decide +kernel
theorem q11_1 {dA : Nat → ClassId} {d : Nat} {st : List Value} {f : pz_F} {Q : Option Value → pz_F → Prop} {v0 v1 v2 v3 : Value} {c0 : Int32} (hr : st.length ≤ 4) : pz_R dA (d + 1) 11 1 [v0, v1, v2, v3] (.int c0 :: st) f Q = pz_C dA d 15 [.int c0] f (fun r f' => pz_R dA (d + 1) 11 4 [v0, v1, v2, v3] (r.toList ++ st) f' Q) := pz_gcs (As := [.int c0]) d11_1 rfl rfl rfl hr
theorem d11_4 : decode (pz_b 11) 4 = .ok (.ifCond .eq 13, 3) := by decide +kernel
theorem q11_4 {dA : Nat → ClassId} {d : Nat} {st : List Value} {f : pz_F} {Q : Option Value → pz_F → Prop} {v0 v1 v2 v3 : Value} {x : Int32} : pz_R dA d 11 4 [v0, v1, v2, v3] (.int x :: st) f Q = (if x = 0 then pz_R dA d 11 17 [v0, v1, v2, v3] st f Q else pz_R dA d 11 7 [v0, v1, v2, v3] st f Q) := pz_gj1 .eq d11_4 rfl
theorem d11_7 : decode (pz_b 11) 7 = .ok (.iload_n 2, 1) := by decide +kernel
theorem q11_7 {dA : Nat → ClassId} {d : Nat} {st : List Value} {f : pz_F} {Q : Option Value → pz_F → Prop} {v0 v1 v3 : Value} {x : Int32} : pz_R dA d 11 7 [v0, v1, .int x, v3] st f Q = pz_R dA d 11 8 [v0, v1, .int x, v3] (.int x :: st) f Q := pz_go (pz_so d11_7 rfl)
theorem d11_8 : decode (pz_b 11) 8 = .ok (.ifCond .lt 9, 3) := by decide +kernel
theorem q11_8 {dA : Nat → ClassId} {d : Nat} {st : List Value} {f : pz_F} {Q : Option Value → pz_F → Prop} {v0 v1 v2 v3 : Value} {x : Int32} : pz_R dA d 11 8 [v0, v1, v2, v3] (.int x :: st) f Q = (if x < 0 then pz_R dA d 11 17 [v0, v1, v2, v3] st f Q else pz_R dA d 11 11 [v0, v1, v2, v3] st f Q) := pz_gj1 .lt d11_8 rfl
theorem d11_11 : decode (pz_b 11) 11 = .ok (.iload_n 2, 1) := by decide +kernel
theorem q11_11 {dA : Nat → ClassId} {d : Nat} {st : List Value} {f : pz_F} {Q : Option Value → pz_F → Prop} {v0 v1 v3 : Value} {x : Int32} : pz_R dA d 11 11 [v0, v1, .int x, v3] st f Q = pz_R dA d 11 12 [v0, v1, .int x, v3] (.int x :: st) f Q := pz_go (pz_so d11_11 rfl)
theorem d11_12 : decode (pz_b 11) 12 = .ok (.bipush 6, 2) := by decide +kernel
theorem q11_12 {dA : Nat → ClassId} {d : Nat} {st : List Value} {f : pz_F} {Q : Option Value → pz_F → Prop} {v0 v1 v2 v3 : Value} : pz_R dA d 11 12 [v0, v1, v2, v3] st f Q = pz_R dA d 11 14 [v0, v1, v2, v3] (.int 6 :: st) f Q := pz_go (pz_so d11_12 rfl)
theorem d11_14 : decode (pz_b 11) 14 = .ok (.if_icmp .lt 6, 3) := by decide +kernel
theorem q11_14 {dA : Nat → ClassId} {d : Nat} {st : List Value} {f : pz_F} {Q : Option Value → pz_F → Prop} {v0 v1 v2 v3 : Value} {x y : Int32} : pz_R dA d 11 14 [v0, v1, v2, v3] (.int y :: .int x :: st) f Q = (if x < y then pz_R dA d 11 20 [v0, v1, v2, v3] st f Q else pz_R dA d 11 17 [v0, v1, v2, v3] st f Q) := pz_gjn .lt d11_14 rfl
theorem d11_17 : decode (pz_b 11) 17 = .ok (.bipush (-2), 2) := by decide +kernel
theorem q11_17 {dA : Nat → ClassId} {d : Nat} {st : List Value} {f : pz_F} {Q : Option Value → pz_F → Prop} {v0 v1 v2 v3 : Value} : pz_R dA d 11 17 [v0, v1, v2, v3] st f Q = pz_R dA d 11 19 [v0, v1, v2, v3] (.int (-2) :: st) f Q := pz_go (pz_so d11_17 rfl)
theorem d11_19 : decode (pz_b 11) 19 = .ok (.ireturn, 1) := by decide +kernel
theorem q11_19 {dA : Nat → ClassId} {d : Nat} {f : pz_F} {Q : Option Value → pz_F → Prop} {v0 v1 v2 v3 : Value} {x : Int32} : pz_R dA d 11 19 [v0, v1, v2, v3] [.int x] f Q = Q (some (.int x)) f := pz_gri d11_19 rfl rfl
theorem d11_20 : decode (pz_b 11) 20 = .ok (.aload_n 0, 1) := by decide +kernel
theorem q11_20 {dA : Nat → ClassId} {d : Nat} {st : List Value} {f : pz_F} {Q : Option Value → pz_F → Prop} {v1 v2 v3 : Value} {x : Nat} : pz_R dA d 11 20 [.ref x, v1, v2, v3] st f Q = pz_R dA d 11 21 [.ref x, v1, v2, v3] (.ref x :: st) f Q := pz_go (pz_so d11_20 rfl)
theorem d11_21 : decode (pz_b 11) 21 = .ok (.getfield 19, 3) := by decide +kernel
theorem q11_21 {dA : Nat → ClassId} {d : Nat} {st : List Value} {f : pz_F} {Q : Option Value → pz_F → Prop} {v0 v1 v2 v3 : Value} {a : Nat} : pz_R dA d 11 21 [v0, v1, v2, v3] (.ref a :: st) f Q = pz_o (pz_gf f a 0 2) (fun v => pz_R dA d 11 24 [v0, v1, v2, v3] (v :: st) f Q) := pz_gg d11_21 rfl
theorem d11_24 : decode (pz_b 11) 24 = .ok (.iload_n 1, 1) := by decide +kernel
theorem q11_24 {dA : Nat → ClassId} {d : Nat} {st : List Value} {f : pz_F} {Q : Option Value → pz_F → Prop} {v0 v2 v3 : Value} {x : Int32} : pz_R dA d 11 24 [v0, .int x, v2, v3] st f Q = pz_R dA d 11 25 [v0, .int x, v2, v3] (.int x :: st) f Q := pz_go (pz_so d11_24 rfl)
theorem d11_25 : decode (pz_b 11) 25 = .ok (.aaload, 1) := by decide +kernel
theorem q11_25 {dA : Nat → ClassId} {d : Nat} {st : List Value} {f : pz_F} {Q : Option Value → pz_F → Prop} {v0 v1 v2 v3 : Value} {i : Int32} {a : Nat} : pz_R dA d 11 25 [v0, v1, v2, v3] (.int i :: .ref a :: st) f Q = pz_o (pz_rl dA f a i) (fun v => pz_R dA d 11 26 [v0, v1, v2, v3] (v :: st) f Q) := pz_grl d11_25
theorem d11_26 : decode (pz_b 11) 26 = .ok (.getfield 121, 3) := by decide +kernel
theorem q11_26 {dA : Nat → ClassId} {d : Nat} {st : List Value} {f : pz_F} {Q : Option Value → pz_F → Prop} {v0 v1 v2 v3 : Value} {a : Nat} : pz_R dA d 11 26 [v0, v1, v2, v3] (.ref a :: st) f Q = pz_o (pz_gf f a 1 1) (fun v => pz_R dA d 11 29 [v0, v1, v2, v3] (v :: st) f Q) := pz_gg d11_26 rfl
theorem d11_29 : decode (pz_b 11) 29 = .ok (.iload_n 2, 1) := by decide +kernel
theorem q11_29 {dA : Nat → ClassId} {d : Nat} {st : List Value} {f : pz_F} {Q : Option Value → pz_F → Prop} {v0 v1 v3 : Value} {x : Int32} : pz_R dA d 11 29 [v0, v1, .int x, v3] st f Q = pz_R dA d 11 30 [v0, v1, .int x, v3] (.int x :: st) f Q := pz_go (pz_so d11_29 rfl)
theorem d11_30 : decode (pz_b 11) 30 = .ok (.aaload, 1) := by decide +kernel
theorem q11_30 {dA : Nat → ClassId} {d : Nat} {st : List Value} {f : pz_F} {Q : Option Value → pz_F → Prop} {v0 v1 v2 v3 : Value} {i : Int32} {a : Nat} : pz_R dA d 11 30 [v0, v1, v2, v3] (.int i :: .ref a :: st) f Q = pz_o (pz_rl dA f a i) (fun v => pz_R dA d 11 31 [v0, v1, v2, v3] (v :: st) f Q) := pz_grl d11_30
theorem d11_31 : decode (pz_b 11) 31 = .ok (.iload_n 3, 1) := by decide +kernel
theorem q11_31 {dA : Nat → ClassId} {d : Nat} {st : List Value} {f : pz_F} {Q : Option Value → pz_F → Prop} {v0 v1 v2 : Value} {x : Int32} : pz_R dA d 11 31 [v0, v1, v2, .int x] st f Q = pz_R dA d 11 32 [v0, v1, v2, .int x] (.int x :: st) f Q := pz_go (pz_so d11_31 rfl)
theorem d11_32 : decode (pz_b 11) 32 = .ok (.invokevirtual 125, 3) := by decide +kernel
theorem q11_32 {dA : Nat → ClassId} {d : Nat} {st : List Value} {f : pz_F} {Q : Option Value → pz_F → Prop} {v0 v1 v2 v3 : Value} {c0 : Int32} {b : Nat} (hr : st.length ≤ 4) : pz_R dA (d + 1) 11 32 [v0, v1, v2, v3] (.int c0 :: .ref b :: st) f Q = pz_o (pz_gu f b 2) (fun _ => pz_C dA d 63 [.ref b, .int c0] f (fun r f' => pz_R dA (d + 1) 11 35 [v0, v1, v2, v3] (r.toList ++ st) f' Q)) := pz_gcv (As := [.int c0]) d11_32 rfl rfl rfl hr
theorem d11_35 : decode (pz_b 11) 35 = .ok (.ireturn, 1) := by decide +kernel
theorem q11_35 {dA : Nat → ClassId} {d : Nat} {f : pz_F} {Q : Option Value → pz_F → Prop} {v0 v1 v2 v3 : Value} {x : Int32} : pz_R dA d 11 35 [v0, v1, v2, v3] [.int x] f Q = Q (some (.int x)) f := pz_gri d11_35 rfl rfl
/-! P_client (II)I -/
theorem e12 {dA : Nat → ClassId} {d : Nat} {f : pz_F} {Q : Option Value → pz_F → Prop} {a0 : Nat} {a1 : Int32} {a2 : Int32} : pz_C dA d 12 [.ref a0, .int a1, .int a2] f Q = pz_R dA d 12 0 [.ref a0, .int a1, .int a2] [] f Q := rfl
theorem d12_0 : decode (pz_b 12) 0 = .ok (.iload_n 1, 1) := by decide +kernel
theorem q12_0 {dA : Nat → ClassId} {d : Nat} {st : List Value} {f : pz_F} {Q : Option Value → pz_F → Prop} {v0 v2 : Value} {x : Int32} : pz_R dA d 12 0 [v0, .int x, v2] st f Q = pz_R dA d 12 1 [v0, .int x, v2] (.int x :: st) f Q := pz_go (pz_so d12_0 rfl)
theorem d12_1 : decode (pz_b 12) 1 = .ok (.invokestatic 53, 3) := by decide +kernel
theorem q12_1 {dA : Nat → ClassId} {d : Nat} {st : List Value} {f : pz_F} {Q : Option Value → pz_F → Prop} {v0 v1 v2 : Value} {c0 : Int32} (hr : st.length ≤ 4) : pz_R dA (d + 1) 12 1 [v0, v1, v2] (.int c0 :: st) f Q = pz_C dA d 16 [.int c0] f (fun r f' => pz_R dA (d + 1) 12 4 [v0, v1, v2] (r.toList ++ st) f' Q) := pz_gcs (As := [.int c0]) d12_1 rfl rfl rfl hr
theorem d12_4 : decode (pz_b 12) 4 = .ok (.ifCond .eq 16, 3) := by decide +kernel
theorem q12_4 {dA : Nat → ClassId} {d : Nat} {st : List Value} {f : pz_F} {Q : Option Value → pz_F → Prop} {v0 v1 v2 : Value} {x : Int32} : pz_R dA d 12 4 [v0, v1, v2] (.int x :: st) f Q = (if x = 0 then pz_R dA d 12 20 [v0, v1, v2] st f Q else pz_R dA d 12 7 [v0, v1, v2] st f Q) := pz_gj1 .eq d12_4 rfl
theorem d12_7 : decode (pz_b 12) 7 = .ok (.aload_n 0, 1) := by decide +kernel
theorem q12_7 {dA : Nat → ClassId} {d : Nat} {st : List Value} {f : pz_F} {Q : Option Value → pz_F → Prop} {v1 v2 : Value} {x : Nat} : pz_R dA d 12 7 [.ref x, v1, v2] st f Q = pz_R dA d 12 8 [.ref x, v1, v2] (.ref x :: st) f Q := pz_go (pz_so d12_7 rfl)
theorem d12_8 : decode (pz_b 12) 8 = .ok (.getfield 28, 3) := by decide +kernel
theorem q12_8 {dA : Nat → ClassId} {d : Nat} {st : List Value} {f : pz_F} {Q : Option Value → pz_F → Prop} {v0 v1 v2 : Value} {a : Nat} : pz_R dA d 12 8 [v0, v1, v2] (.ref a :: st) f Q = pz_o (pz_gf f a 0 3) (fun v => pz_R dA d 12 11 [v0, v1, v2] (v :: st) f Q) := pz_gg d12_8 rfl
theorem d12_11 : decode (pz_b 12) 11 = .ok (.iload_n 1, 1) := by decide +kernel
theorem q12_11 {dA : Nat → ClassId} {d : Nat} {st : List Value} {f : pz_F} {Q : Option Value → pz_F → Prop} {v0 v2 : Value} {x : Int32} : pz_R dA d 12 11 [v0, .int x, v2] st f Q = pz_R dA d 12 12 [v0, .int x, v2] (.int x :: st) f Q := pz_go (pz_so d12_11 rfl)
theorem d12_12 : decode (pz_b 12) 12 = .ok (.aaload, 1) := by decide +kernel
theorem q12_12 {dA : Nat → ClassId} {d : Nat} {st : List Value} {f : pz_F} {Q : Option Value → pz_F → Prop} {v0 v1 v2 : Value} {i : Int32} {a : Nat} : pz_R dA d 12 12 [v0, v1, v2] (.int i :: .ref a :: st) f Q = pz_o (pz_rl dA f a i) (fun v => pz_R dA d 12 13 [v0, v1, v2] (v :: st) f Q) := pz_grl d12_12
theorem d12_13 : decode (pz_b 12) 13 = .ok (.iload_n 2, 1) := by decide +kernel
theorem q12_13 {dA : Nat → ClassId} {d : Nat} {st : List Value} {f : pz_F} {Q : Option Value → pz_F → Prop} {v0 v1 : Value} {x : Int32} : pz_R dA d 12 13 [v0, v1, .int x] st f Q = pz_R dA d 12 14 [v0, v1, .int x] (.int x :: st) f Q := pz_go (pz_so d12_13 rfl)
theorem d12_14 : decode (pz_b 12) 14 = .ok (.invokevirtual 131, 3) := by decide +kernel
theorem q12_14 {dA : Nat → ClassId} {d : Nat} {st : List Value} {f : pz_F} {Q : Option Value → pz_F → Prop} {v0 v1 v2 : Value} {c0 : Int32} {b : Nat} (hr : st.length ≤ 4) : pz_R dA (d + 1) 12 14 [v0, v1, v2] (.int c0 :: .ref b :: st) f Q = pz_o (pz_gu f b 3) (fun _ => pz_C dA d 71 [.ref b, .int c0] f (fun r f' => pz_R dA (d + 1) 12 17 [v0, v1, v2] (r.toList ++ st) f' Q)) := pz_gcv (As := [.int c0]) d12_14 rfl rfl rfl hr
theorem d12_17 : decode (pz_b 12) 17 = .ok (.goto 5, 3) := by decide +kernel
theorem q12_17 {dA : Nat → ClassId} {d : Nat} {st : List Value} {f : pz_F} {Q : Option Value → pz_F → Prop} {v0 v1 v2 : Value} : pz_R dA d 12 17 [v0, v1, v2] st f Q = pz_R dA d 12 22 [v0, v1, v2] st f Q := pz_go (pz_so d12_17 rfl)
theorem d12_20 : decode (pz_b 12) 20 = .ok (.bipush (-2), 2) := by decide +kernel
theorem q12_20 {dA : Nat → ClassId} {d : Nat} {st : List Value} {f : pz_F} {Q : Option Value → pz_F → Prop} {v0 v1 v2 : Value} : pz_R dA d 12 20 [v0, v1, v2] st f Q = pz_R dA d 12 22 [v0, v1, v2] (.int (-2) :: st) f Q := pz_go (pz_so d12_20 rfl)
theorem d12_22 : decode (pz_b 12) 22 = .ok (.ireturn, 1) := by decide +kernel
theorem q12_22 {dA : Nat → ClassId} {d : Nat} {f : pz_F} {Q : Option Value → pz_F → Prop} {v0 v1 v2 : Value} {x : Int32} : pz_R dA d 12 22 [v0, v1, v2] [.int x] f Q = Q (some (.int x)) f := pz_gri d12_22 rfl rfl
/-! P_messages ()I -/
theorem e13 {dA : Nat → ClassId} {d : Nat} {f : pz_F} {Q : Option Value → pz_F → Prop} {a0 : Nat} : pz_C dA d 13 [.ref a0] f Q = pz_R dA d 13 0 [.ref a0] [] f Q := rfl
theorem d13_0 : decode (pz_b 13) 0 = .ok (.aload_n 0, 1) := by decide +kernel
theorem q13_0 {dA : Nat → ClassId} {d : Nat} {st : List Value} {f : pz_F} {Q : Option Value → pz_F → Prop} {x : Nat} : pz_R dA d 13 0 [.ref x] st f Q = pz_R dA d 13 1 [.ref x] (.ref x :: st) f Q := pz_go (pz_so d13_0 rfl)
theorem d13_1 : decode (pz_b 13) 1 = .ok (.getfield 36, 3) := by decide +kernel
theorem q13_1 {dA : Nat → ClassId} {d : Nat} {st : List Value} {f : pz_F} {Q : Option Value → pz_F → Prop} {v0 : Value} {a : Nat} : pz_R dA d 13 1 [v0] (.ref a :: st) f Q = pz_o (pz_gf f a 0 4) (fun v => pz_R dA d 13 4 [v0] (v :: st) f Q) := pz_gg d13_1 rfl
theorem d13_4 : decode (pz_b 13) 4 = .ok (.getfield 132, 3) := by decide +kernel
theorem q13_4 {dA : Nat → ClassId} {d : Nat} {st : List Value} {f : pz_F} {Q : Option Value → pz_F → Prop} {v0 : Value} {a : Nat} : pz_R dA d 13 4 [v0] (.ref a :: st) f Q = pz_o (pz_gf f a 4 1) (fun v => pz_R dA d 13 7 [v0] (v :: st) f Q) := pz_gg d13_4 rfl
theorem d13_7 : decode (pz_b 13) 7 = .ok (.ireturn, 1) := by decide +kernel
theorem q13_7 {dA : Nat → ClassId} {d : Nat} {f : pz_F} {Q : Option Value → pz_F → Prop} {v0 : Value} {x : Int32} : pz_R dA d 13 7 [v0] [.int x] f Q = Q (some (.int x)) f := pz_gri d13_7 rfl rfl
/-! P_message (II)I -/
theorem e14 {dA : Nat → ClassId} {d : Nat} {f : pz_F} {Q : Option Value → pz_F → Prop} {a0 : Nat} {a1 : Int32} {a2 : Int32} : pz_C dA d 14 [.ref a0, .int a1, .int a2] f Q = pz_R dA d 14 0 [.ref a0, .int a1, .int a2] [] f Q := rfl
theorem d14_0 : decode (pz_b 14) 0 = .ok (.aload_n 0, 1) := by decide +kernel
theorem q14_0 {dA : Nat → ClassId} {d : Nat} {st : List Value} {f : pz_F} {Q : Option Value → pz_F → Prop} {v1 v2 : Value} {x : Nat} : pz_R dA d 14 0 [.ref x, v1, v2] st f Q = pz_R dA d 14 1 [.ref x, v1, v2] (.ref x :: st) f Q := pz_go (pz_so d14_0 rfl)
theorem d14_1 : decode (pz_b 14) 1 = .ok (.getfield 36, 3) := by decide +kernel
theorem q14_1 {dA : Nat → ClassId} {d : Nat} {st : List Value} {f : pz_F} {Q : Option Value → pz_F → Prop} {v0 v1 v2 : Value} {a : Nat} : pz_R dA d 14 1 [v0, v1, v2] (.ref a :: st) f Q = pz_o (pz_gf f a 0 4) (fun v => pz_R dA d 14 4 [v0, v1, v2] (v :: st) f Q) := pz_gg d14_1 rfl
theorem d14_4 : decode (pz_b 14) 4 = .ok (.iload_n 1, 1) := by decide +kernel
theorem q14_4 {dA : Nat → ClassId} {d : Nat} {st : List Value} {f : pz_F} {Q : Option Value → pz_F → Prop} {v0 v2 : Value} {x : Int32} : pz_R dA d 14 4 [v0, .int x, v2] st f Q = pz_R dA d 14 5 [v0, .int x, v2] (.int x :: st) f Q := pz_go (pz_so d14_4 rfl)
theorem d14_5 : decode (pz_b 14) 5 = .ok (.invokevirtual 89, 3) := by decide +kernel
theorem q14_5 {dA : Nat → ClassId} {d : Nat} {st : List Value} {f : pz_F} {Q : Option Value → pz_F → Prop} {v0 v1 v2 : Value} {c0 : Int32} {b : Nat} (hr : st.length ≤ 4) : pz_R dA (d + 1) 14 5 [v0, v1, v2] (.int c0 :: .ref b :: st) f Q = pz_o (pz_gu f b 4) (fun _ => pz_C dA d 73 [.ref b, .int c0] f (fun r f' => pz_R dA (d + 1) 14 8 [v0, v1, v2] (r.toList ++ st) f' Q)) := pz_gcv (As := [.int c0]) d14_5 rfl rfl rfl hr
theorem d14_8 : decode (pz_b 14) 8 = .ok (.ifCond .eq 19, 3) := by decide +kernel
theorem q14_8 {dA : Nat → ClassId} {d : Nat} {st : List Value} {f : pz_F} {Q : Option Value → pz_F → Prop} {v0 v1 v2 : Value} {x : Int32} : pz_R dA d 14 8 [v0, v1, v2] (.int x :: st) f Q = (if x = 0 then pz_R dA d 14 27 [v0, v1, v2] st f Q else pz_R dA d 14 11 [v0, v1, v2] st f Q) := pz_gj1 .eq d14_8 rfl
theorem d14_11 : decode (pz_b 14) 11 = .ok (.aload_n 0, 1) := by decide +kernel
theorem q14_11 {dA : Nat → ClassId} {d : Nat} {st : List Value} {f : pz_F} {Q : Option Value → pz_F → Prop} {v1 v2 : Value} {x : Nat} : pz_R dA d 14 11 [.ref x, v1, v2] st f Q = pz_R dA d 14 12 [.ref x, v1, v2] (.ref x :: st) f Q := pz_go (pz_so d14_11 rfl)
theorem d14_12 : decode (pz_b 14) 12 = .ok (.getfield 36, 3) := by decide +kernel
theorem q14_12 {dA : Nat → ClassId} {d : Nat} {st : List Value} {f : pz_F} {Q : Option Value → pz_F → Prop} {v0 v1 v2 : Value} {a : Nat} : pz_R dA d 14 12 [v0, v1, v2] (.ref a :: st) f Q = pz_o (pz_gf f a 0 4) (fun v => pz_R dA d 14 15 [v0, v1, v2] (v :: st) f Q) := pz_gg d14_12 rfl
theorem d14_15 : decode (pz_b 14) 15 = .ok (.getfield 135, 3) := by decide +kernel
theorem q14_15 {dA : Nat → ClassId} {d : Nat} {st : List Value} {f : pz_F} {Q : Option Value → pz_F → Prop} {v0 v1 v2 : Value} {a : Nat} : pz_R dA d 14 15 [v0, v1, v2] (.ref a :: st) f Q = pz_o (pz_gf f a 4 0) (fun v => pz_R dA d 14 18 [v0, v1, v2] (v :: st) f Q) := pz_gg d14_15 rfl
theorem d14_18 : decode (pz_b 14) 18 = .ok (.iload_n 1, 1) := by decide +kernel
theorem q14_18 {dA : Nat → ClassId} {d : Nat} {st : List Value} {f : pz_F} {Q : Option Value → pz_F → Prop} {v0 v2 : Value} {x : Int32} : pz_R dA d 14 18 [v0, .int x, v2] st f Q = pz_R dA d 14 19 [v0, .int x, v2] (.int x :: st) f Q := pz_go (pz_so d14_18 rfl)
theorem d14_19 : decode (pz_b 14) 19 = .ok (.aaload, 1) := by decide +kernel
theorem q14_19 {dA : Nat → ClassId} {d : Nat} {st : List Value} {f : pz_F} {Q : Option Value → pz_F → Prop} {v0 v1 v2 : Value} {i : Int32} {a : Nat} : pz_R dA d 14 19 [v0, v1, v2] (.int i :: .ref a :: st) f Q = pz_o (pz_rl dA f a i) (fun v => pz_R dA d 14 20 [v0, v1, v2] (v :: st) f Q) := pz_grl d14_19
theorem d14_20 : decode (pz_b 14) 20 = .ok (.iload_n 2, 1) := by decide +kernel
theorem q14_20 {dA : Nat → ClassId} {d : Nat} {st : List Value} {f : pz_F} {Q : Option Value → pz_F → Prop} {v0 v1 : Value} {x : Int32} : pz_R dA d 14 20 [v0, v1, .int x] st f Q = pz_R dA d 14 21 [v0, v1, .int x] (.int x :: st) f Q := pz_go (pz_so d14_20 rfl)
theorem d14_21 : decode (pz_b 14) 21 = .ok (.invokevirtual 139, 3) := by decide +kernel
theorem q14_21 {dA : Nat → ClassId} {d : Nat} {st : List Value} {f : pz_F} {Q : Option Value → pz_F → Prop} {v0 v1 v2 : Value} {c0 : Int32} {b : Nat} (hr : st.length ≤ 4) : pz_R dA (d + 1) 14 21 [v0, v1, v2] (.int c0 :: .ref b :: st) f Q = pz_o (pz_gu f b 5) (fun _ => pz_C dA d 83 [.ref b, .int c0] f (fun r f' => pz_R dA (d + 1) 14 24 [v0, v1, v2] (r.toList ++ st) f' Q)) := pz_gcv (As := [.int c0]) d14_21 rfl rfl rfl hr
theorem d14_24 : decode (pz_b 14) 24 = .ok (.goto 5, 3) := by decide +kernel
theorem q14_24 {dA : Nat → ClassId} {d : Nat} {st : List Value} {f : pz_F} {Q : Option Value → pz_F → Prop} {v0 v1 v2 : Value} : pz_R dA d 14 24 [v0, v1, v2] st f Q = pz_R dA d 14 29 [v0, v1, v2] st f Q := pz_go (pz_so d14_24 rfl)
theorem d14_27 : decode (pz_b 14) 27 = .ok (.bipush (-2), 2) := by decide +kernel
theorem q14_27 {dA : Nat → ClassId} {d : Nat} {st : List Value} {f : pz_F} {Q : Option Value → pz_F → Prop} {v0 v1 v2 : Value} : pz_R dA d 14 27 [v0, v1, v2] st f Q = pz_R dA d 14 29 [v0, v1, v2] (.int (-2) :: st) f Q := pz_go (pz_so d14_27 rfl)
theorem d14_29 : decode (pz_b 14) 29 = .ok (.ireturn, 1) := by decide +kernel
theorem q14_29 {dA : Nat → ClassId} {d : Nat} {f : pz_F} {Q : Option Value → pz_F → Prop} {v0 v1 v2 : Value} {x : Int32} : pz_R dA d 14 29 [v0, v1, v2] [.int x] f Q = Q (some (.int x)) f := pz_gri d14_29 rfl rfl
/-! P_isServer (I)Z -/
theorem e15 {dA : Nat → ClassId} {d : Nat} {f : pz_F} {Q : Option Value → pz_F → Prop} {a0 : Int32} : pz_C dA d 15 [.int a0] f Q = pz_R dA d 15 0 [.int a0] [] f Q := rfl
theorem d15_0 : decode (pz_b 15) 0 = .ok (.iload_n 0, 1) := by decide +kernel
theorem q15_0 {dA : Nat → ClassId} {d : Nat} {st : List Value} {f : pz_F} {Q : Option Value → pz_F → Prop} {x : Int32} : pz_R dA d 15 0 [.int x] st f Q = pz_R dA d 15 1 [.int x] (.int x :: st) f Q := pz_go (pz_so d15_0 rfl)
theorem d15_1 : decode (pz_b 15) 1 = .ok (.ifCond .lt 12, 3) := by decide +kernel
theorem q15_1 {dA : Nat → ClassId} {d : Nat} {st : List Value} {f : pz_F} {Q : Option Value → pz_F → Prop} {v0 : Value} {x : Int32} : pz_R dA d 15 1 [v0] (.int x :: st) f Q = (if x < 0 then pz_R dA d 15 13 [v0] st f Q else pz_R dA d 15 4 [v0] st f Q) := pz_gj1 .lt d15_1 rfl
theorem d15_4 : decode (pz_b 15) 4 = .ok (.iload_n 0, 1) := by decide +kernel
theorem q15_4 {dA : Nat → ClassId} {d : Nat} {st : List Value} {f : pz_F} {Q : Option Value → pz_F → Prop} {x : Int32} : pz_R dA d 15 4 [.int x] st f Q = pz_R dA d 15 5 [.int x] (.int x :: st) f Q := pz_go (pz_so d15_4 rfl)
theorem d15_5 : decode (pz_b 15) 5 = .ok (.iconst 2, 1) := by decide +kernel
theorem q15_5 {dA : Nat → ClassId} {d : Nat} {st : List Value} {f : pz_F} {Q : Option Value → pz_F → Prop} {v0 : Value} : pz_R dA d 15 5 [v0] st f Q = pz_R dA d 15 6 [v0] (.int 2 :: st) f Q := pz_go (pz_so d15_5 rfl)
theorem d15_6 : decode (pz_b 15) 6 = .ok (.if_icmp .ge 7, 3) := by decide +kernel
theorem q15_6 {dA : Nat → ClassId} {d : Nat} {st : List Value} {f : pz_F} {Q : Option Value → pz_F → Prop} {v0 : Value} {x y : Int32} : pz_R dA d 15 6 [v0] (.int y :: .int x :: st) f Q = (if y ≤ x then pz_R dA d 15 13 [v0] st f Q else pz_R dA d 15 9 [v0] st f Q) := pz_gjn .ge d15_6 rfl
theorem d15_9 : decode (pz_b 15) 9 = .ok (.iconst 1, 1) := by decide +kernel
theorem q15_9 {dA : Nat → ClassId} {d : Nat} {st : List Value} {f : pz_F} {Q : Option Value → pz_F → Prop} {v0 : Value} : pz_R dA d 15 9 [v0] st f Q = pz_R dA d 15 10 [v0] (.int 1 :: st) f Q := pz_go (pz_so d15_9 rfl)
theorem d15_10 : decode (pz_b 15) 10 = .ok (.goto 4, 3) := by decide +kernel
theorem q15_10 {dA : Nat → ClassId} {d : Nat} {st : List Value} {f : pz_F} {Q : Option Value → pz_F → Prop} {v0 : Value} : pz_R dA d 15 10 [v0] st f Q = pz_R dA d 15 14 [v0] st f Q := pz_go (pz_so d15_10 rfl)
theorem d15_13 : decode (pz_b 15) 13 = .ok (.iconst 0, 1) := by decide +kernel
theorem q15_13 {dA : Nat → ClassId} {d : Nat} {st : List Value} {f : pz_F} {Q : Option Value → pz_F → Prop} {v0 : Value} : pz_R dA d 15 13 [v0] st f Q = pz_R dA d 15 14 [v0] (.int 0 :: st) f Q := pz_go (pz_so d15_13 rfl)
theorem d15_14 : decode (pz_b 15) 14 = .ok (.ireturn, 1) := by decide +kernel
theorem q15_14z {dA : Nat → ClassId} {d : Nat} {f : pz_F} {Q : Option Value → pz_F → Prop} {v0 : Value} : pz_R dA d 15 14 [v0] [.int 0] f Q = Q (some (.int 0)) f := pz_gri d15_14 rfl rfl
theorem q15_14o {dA : Nat → ClassId} {d : Nat} {f : pz_F} {Q : Option Value → pz_F → Prop} {v0 : Value} : pz_R dA d 15 14 [v0] [.int 1] f Q = Q (some (.int 1)) f := pz_gri d15_14 rfl rfl
/-! P_isClient (I)Z -/
theorem e16 {dA : Nat → ClassId} {d : Nat} {f : pz_F} {Q : Option Value → pz_F → Prop} {a0 : Int32} : pz_C dA d 16 [.int a0] f Q = pz_R dA d 16 0 [.int a0] [] f Q := rfl
theorem d16_0 : decode (pz_b 16) 0 = .ok (.iload_n 0, 1) := by decide +kernel
theorem q16_0 {dA : Nat → ClassId} {d : Nat} {st : List Value} {f : pz_F} {Q : Option Value → pz_F → Prop} {x : Int32} : pz_R dA d 16 0 [.int x] st f Q = pz_R dA d 16 1 [.int x] (.int x :: st) f Q := pz_go (pz_so d16_0 rfl)
theorem d16_1 : decode (pz_b 16) 1 = .ok (.ifCond .lt 12, 3) := by decide +kernel
theorem q16_1 {dA : Nat → ClassId} {d : Nat} {st : List Value} {f : pz_F} {Q : Option Value → pz_F → Prop} {v0 : Value} {x : Int32} : pz_R dA d 16 1 [v0] (.int x :: st) f Q = (if x < 0 then pz_R dA d 16 13 [v0] st f Q else pz_R dA d 16 4 [v0] st f Q) := pz_gj1 .lt d16_1 rfl
theorem d16_4 : decode (pz_b 16) 4 = .ok (.iload_n 0, 1) := by decide +kernel
theorem q16_4 {dA : Nat → ClassId} {d : Nat} {st : List Value} {f : pz_F} {Q : Option Value → pz_F → Prop} {x : Int32} : pz_R dA d 16 4 [.int x] st f Q = pz_R dA d 16 5 [.int x] (.int x :: st) f Q := pz_go (pz_so d16_4 rfl)
theorem d16_5 : decode (pz_b 16) 5 = .ok (.iconst 5, 1) := by decide +kernel
theorem q16_5 {dA : Nat → ClassId} {d : Nat} {st : List Value} {f : pz_F} {Q : Option Value → pz_F → Prop} {v0 : Value} : pz_R dA d 16 5 [v0] st f Q = pz_R dA d 16 6 [v0] (.int 5 :: st) f Q := pz_go (pz_so d16_5 rfl)
theorem d16_6 : decode (pz_b 16) 6 = .ok (.if_icmp .ge 7, 3) := by decide +kernel
theorem q16_6 {dA : Nat → ClassId} {d : Nat} {st : List Value} {f : pz_F} {Q : Option Value → pz_F → Prop} {v0 : Value} {x y : Int32} : pz_R dA d 16 6 [v0] (.int y :: .int x :: st) f Q = (if y ≤ x then pz_R dA d 16 13 [v0] st f Q else pz_R dA d 16 9 [v0] st f Q) := pz_gjn .ge d16_6 rfl
theorem d16_9 : decode (pz_b 16) 9 = .ok (.iconst 1, 1) := by decide +kernel
theorem q16_9 {dA : Nat → ClassId} {d : Nat} {st : List Value} {f : pz_F} {Q : Option Value → pz_F → Prop} {v0 : Value} : pz_R dA d 16 9 [v0] st f Q = pz_R dA d 16 10 [v0] (.int 1 :: st) f Q := pz_go (pz_so d16_9 rfl)
theorem d16_10 : decode (pz_b 16) 10 = .ok (.goto 4, 3) := by decide +kernel
theorem q16_10 {dA : Nat → ClassId} {d : Nat} {st : List Value} {f : pz_F} {Q : Option Value → pz_F → Prop} {v0 : Value} : pz_R dA d 16 10 [v0] st f Q = pz_R dA d 16 14 [v0] st f Q := pz_go (pz_so d16_10 rfl)
theorem d16_13 : decode (pz_b 16) 13 = .ok (.iconst 0, 1) := by decide +kernel
theorem q16_13 {dA : Nat → ClassId} {d : Nat} {st : List Value} {f : pz_F} {Q : Option Value → pz_F → Prop} {v0 : Value} : pz_R dA d 16 13 [v0] st f Q = pz_R dA d 16 14 [v0] (.int 0 :: st) f Q := pz_go (pz_so d16_13 rfl)
theorem d16_14 : decode (pz_b 16) 14 = .ok (.ireturn, 1) := by decide +kernel
theorem q16_14z {dA : Nat → ClassId} {d : Nat} {f : pz_F} {Q : Option Value → pz_F → Prop} {v0 : Value} : pz_R dA d 16 14 [v0] [.int 0] f Q = Q (some (.int 0)) f := pz_gri d16_14 rfl rfl
theorem q16_14o {dA : Nat → ClassId} {d : Nat} {f : pz_F} {Q : Option Value → pz_F → Prop} {v0 : Value} : pz_R dA d 16 14 [v0] [.int 1] f Q = Q (some (.int 1)) f := pz_gri d16_14 rfl rfl
/-! P_isDownOrRecovering (LLeasePair$Server;)Z -/
theorem e17 {dA : Nat → ClassId} {d : Nat} {f : pz_F} {Q : Option Value → pz_F → Prop} {a0 : Nat} : pz_C dA d 17 [.ref a0] f Q = pz_R dA d 17 0 [.ref a0] [] f Q := rfl
theorem d17_0 : decode (pz_b 17) 0 = .ok (.aload_n 0, 1) := by decide +kernel
theorem q17_0 {dA : Nat → ClassId} {d : Nat} {st : List Value} {f : pz_F} {Q : Option Value → pz_F → Prop} {x : Nat} : pz_R dA d 17 0 [.ref x] st f Q = pz_R dA d 17 1 [.ref x] (.ref x :: st) f Q := pz_go (pz_so d17_0 rfl)
theorem d17_1 : decode (pz_b 17) 1 = .ok (.getfield 46, 3) := by decide +kernel
theorem q17_1 {dA : Nat → ClassId} {d : Nat} {st : List Value} {f : pz_F} {Q : Option Value → pz_F → Prop} {v0 : Value} {a : Nat} : pz_R dA d 17 1 [v0] (.ref a :: st) f Q = pz_o (pz_gf f a 1 2) (fun v => pz_R dA d 17 4 [v0] (v :: st) f Q) := pz_gg d17_1 rfl
theorem d17_4 : decode (pz_b 17) 4 = .ok (.ifCond .eq 11, 3) := by decide +kernel
theorem q17_4 {dA : Nat → ClassId} {d : Nat} {st : List Value} {f : pz_F} {Q : Option Value → pz_F → Prop} {v0 : Value} {x : Int32} : pz_R dA d 17 4 [v0] (.int x :: st) f Q = (if x = 0 then pz_R dA d 17 15 [v0] st f Q else pz_R dA d 17 7 [v0] st f Q) := pz_gj1 .eq d17_4 rfl
theorem d17_7 : decode (pz_b 17) 7 = .ok (.aload_n 0, 1) := by decide +kernel
theorem q17_7 {dA : Nat → ClassId} {d : Nat} {st : List Value} {f : pz_F} {Q : Option Value → pz_F → Prop} {x : Nat} : pz_R dA d 17 7 [.ref x] st f Q = pz_R dA d 17 8 [.ref x] (.ref x :: st) f Q := pz_go (pz_so d17_7 rfl)
theorem d17_8 : decode (pz_b 17) 8 = .ok (.getfield 46, 3) := by decide +kernel
theorem q17_8 {dA : Nat → ClassId} {d : Nat} {st : List Value} {f : pz_F} {Q : Option Value → pz_F → Prop} {v0 : Value} {a : Nat} : pz_R dA d 17 8 [v0] (.ref a :: st) f Q = pz_o (pz_gf f a 1 2) (fun v => pz_R dA d 17 11 [v0] (v :: st) f Q) := pz_gg d17_8 rfl
theorem d17_11 : decode (pz_b 17) 11 = .ok (.iconst 4, 1) := by decide +kernel
theorem q17_11 {dA : Nat → ClassId} {d : Nat} {st : List Value} {f : pz_F} {Q : Option Value → pz_F → Prop} {v0 : Value} : pz_R dA d 17 11 [v0] st f Q = pz_R dA d 17 12 [v0] (.int 4 :: st) f Q := pz_go (pz_so d17_11 rfl)
theorem d17_12 : decode (pz_b 17) 12 = .ok (.if_icmp .ne 7, 3) := by decide +kernel
theorem q17_12 {dA : Nat → ClassId} {d : Nat} {st : List Value} {f : pz_F} {Q : Option Value → pz_F → Prop} {v0 : Value} {x y : Int32} : pz_R dA d 17 12 [v0] (.int y :: .int x :: st) f Q = (if x = y then pz_R dA d 17 15 [v0] st f Q else pz_R dA d 17 19 [v0] st f Q) := pz_gjn .ne d17_12 rfl
theorem d17_15 : decode (pz_b 17) 15 = .ok (.iconst 1, 1) := by decide +kernel
theorem q17_15 {dA : Nat → ClassId} {d : Nat} {st : List Value} {f : pz_F} {Q : Option Value → pz_F → Prop} {v0 : Value} : pz_R dA d 17 15 [v0] st f Q = pz_R dA d 17 16 [v0] (.int 1 :: st) f Q := pz_go (pz_so d17_15 rfl)
theorem d17_16 : decode (pz_b 17) 16 = .ok (.goto 4, 3) := by decide +kernel
theorem q17_16 {dA : Nat → ClassId} {d : Nat} {st : List Value} {f : pz_F} {Q : Option Value → pz_F → Prop} {v0 : Value} : pz_R dA d 17 16 [v0] st f Q = pz_R dA d 17 20 [v0] st f Q := pz_go (pz_so d17_16 rfl)
theorem d17_19 : decode (pz_b 17) 19 = .ok (.iconst 0, 1) := by decide +kernel
theorem q17_19 {dA : Nat → ClassId} {d : Nat} {st : List Value} {f : pz_F} {Q : Option Value → pz_F → Prop} {v0 : Value} : pz_R dA d 17 19 [v0] st f Q = pz_R dA d 17 20 [v0] (.int 0 :: st) f Q := pz_go (pz_so d17_19 rfl)
theorem d17_20 : decode (pz_b 17) 20 = .ok (.ireturn, 1) := by decide +kernel
theorem q17_20z {dA : Nat → ClassId} {d : Nat} {f : pz_F} {Q : Option Value → pz_F → Prop} {v0 : Value} : pz_R dA d 17 20 [v0] [.int 0] f Q = Q (some (.int 0)) f := pz_gri d17_20 rfl rfl
theorem q17_20o {dA : Nat → ClassId} {d : Nat} {f : pz_F} {Q : Option Value → pz_F → Prop} {v0 : Value} : pz_R dA d 17 20 [v0] [.int 1] f Q = Q (some (.int 1)) f := pz_gri d17_20 rfl rfl
/-! P_partnerOf (LLeasePair$Server;)LLeasePair$Server; -/
theorem e18 {dA : Nat → ClassId} {d : Nat} {f : pz_F} {Q : Option Value → pz_F → Prop} {a0 : Nat} {a1 : Nat} : pz_C dA d 18 [.ref a0, .ref a1] f Q = pz_R dA d 18 0 [.ref a0, .ref a1] [] f Q := rfl
theorem d18_0 : decode (pz_b 18) 0 = .ok (.aload_n 0, 1) := by decide +kernel
theorem q18_0 {dA : Nat → ClassId} {d : Nat} {st : List Value} {f : pz_F} {Q : Option Value → pz_F → Prop} {v1 : Value} {x : Nat} : pz_R dA d 18 0 [.ref x, v1] st f Q = pz_R dA d 18 1 [.ref x, v1] (.ref x :: st) f Q := pz_go (pz_so d18_0 rfl)
theorem d18_1 : decode (pz_b 18) 1 = .ok (.getfield 19, 3) := by decide +kernel
theorem q18_1 {dA : Nat → ClassId} {d : Nat} {st : List Value} {f : pz_F} {Q : Option Value → pz_F → Prop} {v0 v1 : Value} {a : Nat} : pz_R dA d 18 1 [v0, v1] (.ref a :: st) f Q = pz_o (pz_gf f a 0 2) (fun v => pz_R dA d 18 4 [v0, v1] (v :: st) f Q) := pz_gg d18_1 rfl
theorem d18_4 : decode (pz_b 18) 4 = .ok (.iconst 1, 1) := by decide +kernel
theorem q18_4 {dA : Nat → ClassId} {d : Nat} {st : List Value} {f : pz_F} {Q : Option Value → pz_F → Prop} {v0 v1 : Value} : pz_R dA d 18 4 [v0, v1] st f Q = pz_R dA d 18 5 [v0, v1] (.int 1 :: st) f Q := pz_go (pz_so d18_4 rfl)
theorem d18_5 : decode (pz_b 18) 5 = .ok (.aload_n 1, 1) := by decide +kernel
theorem q18_5 {dA : Nat → ClassId} {d : Nat} {st : List Value} {f : pz_F} {Q : Option Value → pz_F → Prop} {v0 : Value} {x : Nat} : pz_R dA d 18 5 [v0, .ref x] st f Q = pz_R dA d 18 6 [v0, .ref x] (.ref x :: st) f Q := pz_go (pz_so d18_5 rfl)
theorem q18_5n {dA : Nat → ClassId} {d : Nat} {st : List Value} {f : pz_F} {Q : Option Value → pz_F → Prop} {v0 : Value} : pz_R dA d 18 5 [v0, .null] st f Q = pz_R dA d 18 6 [v0, .null] (.null :: st) f Q := pz_go (pz_so d18_5 rfl)
theorem d18_6 : decode (pz_b 18) 6 = .ok (.getfield 140, 3) := by decide +kernel
theorem q18_6 {dA : Nat → ClassId} {d : Nat} {st : List Value} {f : pz_F} {Q : Option Value → pz_F → Prop} {v0 v1 : Value} {a : Nat} : pz_R dA d 18 6 [v0, v1] (.ref a :: st) f Q = pz_o (pz_gf f a 1 0) (fun v => pz_R dA d 18 9 [v0, v1] (v :: st) f Q) := pz_gg d18_6 rfl
theorem d18_9 : decode (pz_b 18) 9 = .ok (.isub, 1) := by decide +kernel
theorem q18_9 {dA : Nat → ClassId} {d : Nat} {st : List Value} {f : pz_F} {Q : Option Value → pz_F → Prop} {v0 v1 : Value} {x y : Int32} : pz_R dA d 18 9 [v0, v1] (.int y :: .int x :: st) f Q = pz_R dA d 18 10 [v0, v1] (.int (x - y) :: st) f Q := pz_go (pz_so d18_9 rfl)
theorem d18_10 : decode (pz_b 18) 10 = .ok (.aaload, 1) := by decide +kernel
theorem q18_10 {dA : Nat → ClassId} {d : Nat} {st : List Value} {f : pz_F} {Q : Option Value → pz_F → Prop} {v0 v1 : Value} {i : Int32} {a : Nat} : pz_R dA d 18 10 [v0, v1] (.int i :: .ref a :: st) f Q = pz_o (pz_rl dA f a i) (fun v => pz_R dA d 18 11 [v0, v1] (v :: st) f Q) := pz_grl d18_10
theorem d18_11 : decode (pz_b 18) 11 = .ok (.areturn, 1) := by decide +kernel
theorem q18_11 {dA : Nat → ClassId} {d : Nat} {f : pz_F} {Q : Option Value → pz_F → Prop} {v0 v1 : Value} {x : Nat} : pz_R dA d 18 11 [v0, v1] [.ref x] f Q = Q (some (.ref x)) f := pz_gr (pz_so d18_11 rfl)
theorem q18_11n {dA : Nat → ClassId} {d : Nat} {f : pz_F} {Q : Option Value → pz_F → Prop} {v0 v1 : Value} : pz_R dA d 18 11 [v0, v1] [.null] f Q = Q (some .null) f := pz_gr (pz_so d18_11 rfl)
/-! P_hasContact ()Z -/
theorem e19 {dA : Nat → ClassId} {d : Nat} {f : pz_F} {Q : Option Value → pz_F → Prop} {a0 : Nat} : pz_C dA d 19 [.ref a0] f Q = pz_R dA d 19 0 [.ref a0] [] f Q := rfl
theorem d19_0 : decode (pz_b 19) 0 = .ok (.aload_n 0, 1) := by decide +kernel
theorem q19_0 {dA : Nat → ClassId} {d : Nat} {st : List Value} {f : pz_F} {Q : Option Value → pz_F → Prop} {x : Nat} : pz_R dA d 19 0 [.ref x] st f Q = pz_R dA d 19 1 [.ref x] (.ref x :: st) f Q := pz_go (pz_so d19_0 rfl)
theorem d19_1 : decode (pz_b 19) 1 = .ok (.getfield 13, 3) := by decide +kernel
theorem q19_1 {dA : Nat → ClassId} {d : Nat} {st : List Value} {f : pz_F} {Q : Option Value → pz_F → Prop} {v0 : Value} {a : Nat} : pz_R dA d 19 1 [v0] (.ref a :: st) f Q = pz_o (pz_gf f a 0 1) (fun v => pz_R dA d 19 4 [v0] (v :: st) f Q) := pz_gg d19_1 rfl
theorem d19_4 : decode (pz_b 19) 4 = .ok (.ifCond .eq 31, 3) := by decide +kernel
theorem q19_4 {dA : Nat → ClassId} {d : Nat} {st : List Value} {f : pz_F} {Q : Option Value → pz_F → Prop} {v0 : Value} {x : Int32} : pz_R dA d 19 4 [v0] (.int x :: st) f Q = (if x = 0 then pz_R dA d 19 35 [v0] st f Q else pz_R dA d 19 7 [v0] st f Q) := pz_gj1 .eq d19_4 rfl
theorem d19_7 : decode (pz_b 19) 7 = .ok (.aload_n 0, 1) := by decide +kernel
theorem q19_7 {dA : Nat → ClassId} {d : Nat} {st : List Value} {f : pz_F} {Q : Option Value → pz_F → Prop} {x : Nat} : pz_R dA d 19 7 [.ref x] st f Q = pz_R dA d 19 8 [.ref x] (.ref x :: st) f Q := pz_go (pz_so d19_7 rfl)
theorem d19_8 : decode (pz_b 19) 8 = .ok (.getfield 19, 3) := by decide +kernel
theorem q19_8 {dA : Nat → ClassId} {d : Nat} {st : List Value} {f : pz_F} {Q : Option Value → pz_F → Prop} {v0 : Value} {a : Nat} : pz_R dA d 19 8 [v0] (.ref a :: st) f Q = pz_o (pz_gf f a 0 2) (fun v => pz_R dA d 19 11 [v0] (v :: st) f Q) := pz_gg d19_8 rfl
theorem d19_11 : decode (pz_b 19) 11 = .ok (.iconst 0, 1) := by decide +kernel
theorem q19_11 {dA : Nat → ClassId} {d : Nat} {st : List Value} {f : pz_F} {Q : Option Value → pz_F → Prop} {v0 : Value} : pz_R dA d 19 11 [v0] st f Q = pz_R dA d 19 12 [v0] (.int 0 :: st) f Q := pz_go (pz_so d19_11 rfl)
theorem d19_12 : decode (pz_b 19) 12 = .ok (.aaload, 1) := by decide +kernel
theorem q19_12 {dA : Nat → ClassId} {d : Nat} {st : List Value} {f : pz_F} {Q : Option Value → pz_F → Prop} {v0 : Value} {i : Int32} {a : Nat} : pz_R dA d 19 12 [v0] (.int i :: .ref a :: st) f Q = pz_o (pz_rl dA f a i) (fun v => pz_R dA d 19 13 [v0] (v :: st) f Q) := pz_grl d19_12
theorem d19_13 : decode (pz_b 19) 13 = .ok (.getfield 46, 3) := by decide +kernel
theorem q19_13 {dA : Nat → ClassId} {d : Nat} {st : List Value} {f : pz_F} {Q : Option Value → pz_F → Prop} {v0 : Value} {a : Nat} : pz_R dA d 19 13 [v0] (.ref a :: st) f Q = pz_o (pz_gf f a 1 2) (fun v => pz_R dA d 19 16 [v0] (v :: st) f Q) := pz_gg d19_13 rfl
theorem d19_16 : decode (pz_b 19) 16 = .ok (.ifCond .eq 19, 3) := by decide +kernel
theorem q19_16 {dA : Nat → ClassId} {d : Nat} {st : List Value} {f : pz_F} {Q : Option Value → pz_F → Prop} {v0 : Value} {x : Int32} : pz_R dA d 19 16 [v0] (.int x :: st) f Q = (if x = 0 then pz_R dA d 19 35 [v0] st f Q else pz_R dA d 19 19 [v0] st f Q) := pz_gj1 .eq d19_16 rfl
theorem d19_19 : decode (pz_b 19) 19 = .ok (.aload_n 0, 1) := by decide +kernel
theorem q19_19 {dA : Nat → ClassId} {d : Nat} {st : List Value} {f : pz_F} {Q : Option Value → pz_F → Prop} {x : Nat} : pz_R dA d 19 19 [.ref x] st f Q = pz_R dA d 19 20 [.ref x] (.ref x :: st) f Q := pz_go (pz_so d19_19 rfl)
theorem d19_20 : decode (pz_b 19) 20 = .ok (.getfield 19, 3) := by decide +kernel
theorem q19_20 {dA : Nat → ClassId} {d : Nat} {st : List Value} {f : pz_F} {Q : Option Value → pz_F → Prop} {v0 : Value} {a : Nat} : pz_R dA d 19 20 [v0] (.ref a :: st) f Q = pz_o (pz_gf f a 0 2) (fun v => pz_R dA d 19 23 [v0] (v :: st) f Q) := pz_gg d19_20 rfl
theorem d19_23 : decode (pz_b 19) 23 = .ok (.iconst 1, 1) := by decide +kernel
theorem q19_23 {dA : Nat → ClassId} {d : Nat} {st : List Value} {f : pz_F} {Q : Option Value → pz_F → Prop} {v0 : Value} : pz_R dA d 19 23 [v0] st f Q = pz_R dA d 19 24 [v0] (.int 1 :: st) f Q := pz_go (pz_so d19_23 rfl)
theorem d19_24 : decode (pz_b 19) 24 = .ok (.aaload, 1) := by decide +kernel
theorem q19_24 {dA : Nat → ClassId} {d : Nat} {st : List Value} {f : pz_F} {Q : Option Value → pz_F → Prop} {v0 : Value} {i : Int32} {a : Nat} : pz_R dA d 19 24 [v0] (.int i :: .ref a :: st) f Q = pz_o (pz_rl dA f a i) (fun v => pz_R dA d 19 25 [v0] (v :: st) f Q) := pz_grl d19_24
theorem d19_25 : decode (pz_b 19) 25 = .ok (.getfield 46, 3) := by decide +kernel
theorem q19_25 {dA : Nat → ClassId} {d : Nat} {st : List Value} {f : pz_F} {Q : Option Value → pz_F → Prop} {v0 : Value} {a : Nat} : pz_R dA d 19 25 [v0] (.ref a :: st) f Q = pz_o (pz_gf f a 1 2) (fun v => pz_R dA d 19 28 [v0] (v :: st) f Q) := pz_gg d19_25 rfl
theorem d19_28 : decode (pz_b 19) 28 = .ok (.ifCond .eq 7, 3) := by decide +kernel
theorem q19_28 {dA : Nat → ClassId} {d : Nat} {st : List Value} {f : pz_F} {Q : Option Value → pz_F → Prop} {v0 : Value} {x : Int32} : pz_R dA d 19 28 [v0] (.int x :: st) f Q = (if x = 0 then pz_R dA d 19 35 [v0] st f Q else pz_R dA d 19 31 [v0] st f Q) := pz_gj1 .eq d19_28 rfl
theorem d19_31 : decode (pz_b 19) 31 = .ok (.iconst 1, 1) := by decide +kernel
theorem q19_31 {dA : Nat → ClassId} {d : Nat} {st : List Value} {f : pz_F} {Q : Option Value → pz_F → Prop} {v0 : Value} : pz_R dA d 19 31 [v0] st f Q = pz_R dA d 19 32 [v0] (.int 1 :: st) f Q := pz_go (pz_so d19_31 rfl)
theorem d19_32 : decode (pz_b 19) 32 = .ok (.goto 4, 3) := by decide +kernel
theorem q19_32 {dA : Nat → ClassId} {d : Nat} {st : List Value} {f : pz_F} {Q : Option Value → pz_F → Prop} {v0 : Value} : pz_R dA d 19 32 [v0] st f Q = pz_R dA d 19 36 [v0] st f Q := pz_go (pz_so d19_32 rfl)
theorem d19_35 : decode (pz_b 19) 35 = .ok (.iconst 0, 1) := by decide +kernel
theorem q19_35 {dA : Nat → ClassId} {d : Nat} {st : List Value} {f : pz_F} {Q : Option Value → pz_F → Prop} {v0 : Value} : pz_R dA d 19 35 [v0] st f Q = pz_R dA d 19 36 [v0] (.int 0 :: st) f Q := pz_go (pz_so d19_35 rfl)
theorem d19_36 : decode (pz_b 19) 36 = .ok (.ireturn, 1) := by decide +kernel
theorem q19_36z {dA : Nat → ClassId} {d : Nat} {f : pz_F} {Q : Option Value → pz_F → Prop} {v0 : Value} : pz_R dA d 19 36 [v0] [.int 0] f Q = Q (some (.int 0)) f := pz_gri d19_36 rfl rfl
theorem q19_36o {dA : Nat → ClassId} {d : Nat} {f : pz_F} {Q : Option Value → pz_F → Prop} {v0 : Value} : pz_R dA d 19 36 [v0] [.int 1] f Q = Q (some (.int 1)) f := pz_gri d19_36 rfl rfl
/-! P_tickServer (LLeasePair$Server;)V -/
theorem e20 {dA : Nat → ClassId} {d : Nat} {f : pz_F} {Q : Option Value → pz_F → Prop} {a0 : Nat} {a1 : Nat} : pz_C dA d 20 [.ref a0, .ref a1] f Q = pz_R dA d 20 0 [.ref a0, .ref a1] [] f Q := rfl
theorem d20_0 : decode (pz_b 20) 0 = .ok (.aload_n 1, 1) := by decide +kernel
theorem q20_0 {dA : Nat → ClassId} {d : Nat} {st : List Value} {f : pz_F} {Q : Option Value → pz_F → Prop} {v0 : Value} {x : Nat} : pz_R dA d 20 0 [v0, .ref x] st f Q = pz_R dA d 20 1 [v0, .ref x] (.ref x :: st) f Q := pz_go (pz_so d20_0 rfl)
theorem q20_0n {dA : Nat → ClassId} {d : Nat} {st : List Value} {f : pz_F} {Q : Option Value → pz_F → Prop} {v0 : Value} : pz_R dA d 20 0 [v0, .null] st f Q = pz_R dA d 20 1 [v0, .null] (.null :: st) f Q := pz_go (pz_so d20_0 rfl)
theorem d20_1 : decode (pz_b 20) 1 = .ok (.aload_n 0, 1) := by decide +kernel
theorem q20_1 {dA : Nat → ClassId} {d : Nat} {st : List Value} {f : pz_F} {Q : Option Value → pz_F → Prop} {v1 : Value} {x : Nat} : pz_R dA d 20 1 [.ref x, v1] st f Q = pz_R dA d 20 2 [.ref x, v1] (.ref x :: st) f Q := pz_go (pz_so d20_1 rfl)
theorem d20_2 : decode (pz_b 20) 2 = .ok (.invokevirtual 143, 3) := by decide +kernel
theorem q20_2 {dA : Nat → ClassId} {d : Nat} {st : List Value} {f : pz_F} {Q : Option Value → pz_F → Prop} {v0 v1 : Value} {b : Nat} (hr : st.length ≤ 4) : pz_R dA (d + 1) 20 2 [v0, v1] (.ref b :: st) f Q = pz_o (pz_gu f b 0) (fun _ => pz_C dA d 19 [.ref b] f (fun r f' => pz_R dA (d + 1) 20 5 [v0, v1] (r.toList ++ st) f' Q)) := pz_gcv (As := []) d20_2 rfl rfl rfl hr
theorem d20_5 : decode (pz_b 20) 5 = .ok (.aload_n 0, 1) := by decide +kernel
theorem q20_5 {dA : Nat → ClassId} {d : Nat} {st : List Value} {f : pz_F} {Q : Option Value → pz_F → Prop} {v1 : Value} {x : Nat} : pz_R dA d 20 5 [.ref x, v1] st f Q = pz_R dA d 20 6 [.ref x, v1] (.ref x :: st) f Q := pz_go (pz_so d20_5 rfl)
theorem d20_6 : decode (pz_b 20) 6 = .ok (.getfield 7, 3) := by decide +kernel
theorem q20_6 {dA : Nat → ClassId} {d : Nat} {st : List Value} {f : pz_F} {Q : Option Value → pz_F → Prop} {v0 v1 : Value} {a : Nat} : pz_R dA d 20 6 [v0, v1] (.ref a :: st) f Q = pz_o (pz_gf f a 0 0) (fun v => pz_R dA d 20 9 [v0, v1] (v :: st) f Q) := pz_gg d20_6 rfl
theorem d20_9 : decode (pz_b 20) 9 = .ok (.invokevirtual 147, 3) := by decide +kernel
theorem q20_9 {dA : Nat → ClassId} {d : Nat} {st : List Value} {f : pz_F} {Q : Option Value → pz_F → Prop} {v0 v1 : Value} {c0 : Int32} {c1 : Int32} {b : Nat} (hr : st.length ≤ 4) : pz_R dA (d + 1) 20 9 [v0, v1] (.int c1 :: .int c0 :: .ref b :: st) f Q = pz_o (pz_gu f b 1) (fun _ => pz_C dA d 40 [.ref b, .int c0, .int c1] f (fun r f' => pz_R dA (d + 1) 20 12 [v0, v1] (r.toList ++ st) f' Q)) := pz_gcv (As := [.int c0, .int c1]) d20_9 rfl rfl rfl hr
theorem d20_12 : decode (pz_b 20) 12 = .ok (.aload_n 1, 1) := by decide +kernel
theorem q20_12 {dA : Nat → ClassId} {d : Nat} {st : List Value} {f : pz_F} {Q : Option Value → pz_F → Prop} {v0 : Value} {x : Nat} : pz_R dA d 20 12 [v0, .ref x] st f Q = pz_R dA d 20 13 [v0, .ref x] (.ref x :: st) f Q := pz_go (pz_so d20_12 rfl)
theorem q20_12n {dA : Nat → ClassId} {d : Nat} {st : List Value} {f : pz_F} {Q : Option Value → pz_F → Prop} {v0 : Value} : pz_R dA d 20 12 [v0, .null] st f Q = pz_R dA d 20 13 [v0, .null] (.null :: st) f Q := pz_go (pz_so d20_12 rfl)
theorem d20_13 : decode (pz_b 20) 13 = .ok (.invokevirtual 151, 3) := by decide +kernel
theorem q20_13 {dA : Nat → ClassId} {d : Nat} {st : List Value} {f : pz_F} {Q : Option Value → pz_F → Prop} {v0 v1 : Value} {b : Nat} (hr : st.length ≤ 4) : pz_R dA (d + 1) 20 13 [v0, v1] (.ref b :: st) f Q = pz_o (pz_gu f b 1) (fun _ => pz_C dA d 36 [.ref b] f (fun r f' => pz_R dA (d + 1) 20 16 [v0, v1] (r.toList ++ st) f' Q)) := pz_gcv (As := []) d20_13 rfl rfl rfl hr
theorem d20_16 : decode (pz_b 20) 16 = .ok (.ifCond .eq 11, 3) := by decide +kernel
theorem q20_16 {dA : Nat → ClassId} {d : Nat} {st : List Value} {f : pz_F} {Q : Option Value → pz_F → Prop} {v0 v1 : Value} {x : Int32} : pz_R dA d 20 16 [v0, v1] (.int x :: st) f Q = (if x = 0 then pz_R dA d 20 27 [v0, v1] st f Q else pz_R dA d 20 19 [v0, v1] st f Q) := pz_gj1 .eq d20_16 rfl
theorem d20_19 : decode (pz_b 20) 19 = .ok (.aload_n 1, 1) := by decide +kernel
theorem q20_19 {dA : Nat → ClassId} {d : Nat} {st : List Value} {f : pz_F} {Q : Option Value → pz_F → Prop} {v0 : Value} {x : Nat} : pz_R dA d 20 19 [v0, .ref x] st f Q = pz_R dA d 20 20 [v0, .ref x] (.ref x :: st) f Q := pz_go (pz_so d20_19 rfl)
theorem q20_19n {dA : Nat → ClassId} {d : Nat} {st : List Value} {f : pz_F} {Q : Option Value → pz_F → Prop} {v0 : Value} : pz_R dA d 20 19 [v0, .null] st f Q = pz_R dA d 20 20 [v0, .null] (.null :: st) f Q := pz_go (pz_so d20_19 rfl)
theorem d20_20 : decode (pz_b 20) 20 = .ok (.aload_n 0, 1) := by decide +kernel
theorem q20_20 {dA : Nat → ClassId} {d : Nat} {st : List Value} {f : pz_F} {Q : Option Value → pz_F → Prop} {v1 : Value} {x : Nat} : pz_R dA d 20 20 [.ref x, v1] st f Q = pz_R dA d 20 21 [.ref x, v1] (.ref x :: st) f Q := pz_go (pz_so d20_20 rfl)
theorem d20_21 : decode (pz_b 20) 21 = .ok (.getfield 7, 3) := by decide +kernel
theorem q20_21 {dA : Nat → ClassId} {d : Nat} {st : List Value} {f : pz_F} {Q : Option Value → pz_F → Prop} {v0 v1 : Value} {a : Nat} : pz_R dA d 20 21 [v0, v1] (.ref a :: st) f Q = pz_o (pz_gf f a 0 0) (fun v => pz_R dA d 20 24 [v0, v1] (v :: st) f Q) := pz_gg d20_21 rfl
theorem d20_24 : decode (pz_b 20) 24 = .ok (.invokevirtual 154, 3) := by decide +kernel
theorem q20_24 {dA : Nat → ClassId} {d : Nat} {st : List Value} {f : pz_F} {Q : Option Value → pz_F → Prop} {v0 v1 : Value} {c0 : Int32} {b : Nat} (hr : st.length ≤ 4) : pz_R dA (d + 1) 20 24 [v0, v1] (.int c0 :: .ref b :: st) f Q = pz_o (pz_gu f b 1) (fun _ => pz_C dA d 42 [.ref b, .int c0] f (fun r f' => pz_R dA (d + 1) 20 27 [v0, v1] (r.toList ++ st) f' Q)) := pz_gcv (As := [.int c0]) d20_24 rfl rfl rfl hr
theorem d20_27 : decode (pz_b 20) 27 = .ok (.aload_n 0, 1) := by decide +kernel
theorem q20_27 {dA : Nat → ClassId} {d : Nat} {st : List Value} {f : pz_F} {Q : Option Value → pz_F → Prop} {v1 : Value} {x : Nat} : pz_R dA d 20 27 [.ref x, v1] st f Q = pz_R dA d 20 28 [.ref x, v1] (.ref x :: st) f Q := pz_go (pz_so d20_27 rfl)
theorem d20_28 : decode (pz_b 20) 28 = .ok (.invokevirtual 143, 3) := by decide +kernel
theorem q20_28 {dA : Nat → ClassId} {d : Nat} {st : List Value} {f : pz_F} {Q : Option Value → pz_F → Prop} {v0 v1 : Value} {b : Nat} (hr : st.length ≤ 4) : pz_R dA (d + 1) 20 28 [v0, v1] (.ref b :: st) f Q = pz_o (pz_gu f b 0) (fun _ => pz_C dA d 19 [.ref b] f (fun r f' => pz_R dA (d + 1) 20 31 [v0, v1] (r.toList ++ st) f' Q)) := pz_gcv (As := []) d20_28 rfl rfl rfl hr
theorem d20_31 : decode (pz_b 20) 31 = .ok (.ifCond .eq 8, 3) := by decide +kernel
theorem q20_31 {dA : Nat → ClassId} {d : Nat} {st : List Value} {f : pz_F} {Q : Option Value → pz_F → Prop} {v0 v1 : Value} {x : Int32} : pz_R dA d 20 31 [v0, v1] (.int x :: st) f Q = (if x = 0 then pz_R dA d 20 39 [v0, v1] st f Q else pz_R dA d 20 34 [v0, v1] st f Q) := pz_gj1 .eq d20_31 rfl
theorem d20_34 : decode (pz_b 20) 34 = .ok (.aload_n 0, 1) := by decide +kernel
theorem q20_34 {dA : Nat → ClassId} {d : Nat} {st : List Value} {f : pz_F} {Q : Option Value → pz_F → Prop} {v1 : Value} {x : Nat} : pz_R dA d 20 34 [.ref x, v1] st f Q = pz_R dA d 20 35 [.ref x, v1] (.ref x :: st) f Q := pz_go (pz_so d20_34 rfl)
theorem d20_35 : decode (pz_b 20) 35 = .ok (.aload_n 1, 1) := by decide +kernel
theorem q20_35 {dA : Nat → ClassId} {d : Nat} {st : List Value} {f : pz_F} {Q : Option Value → pz_F → Prop} {v0 : Value} {x : Nat} : pz_R dA d 20 35 [v0, .ref x] st f Q = pz_R dA d 20 36 [v0, .ref x] (.ref x :: st) f Q := pz_go (pz_so d20_35 rfl)
theorem q20_35n {dA : Nat → ClassId} {d : Nat} {st : List Value} {f : pz_F} {Q : Option Value → pz_F → Prop} {v0 : Value} : pz_R dA d 20 35 [v0, .null] st f Q = pz_R dA d 20 36 [v0, .null] (.null :: st) f Q := pz_go (pz_so d20_35 rfl)
theorem d20_36 : decode (pz_b 20) 36 = .ok (.invokevirtual 157, 3) := by decide +kernel
theorem q20_36 {dA : Nat → ClassId} {d : Nat} {st : List Value} {f : pz_F} {Q : Option Value → pz_F → Prop} {v0 v1 : Value} {c0 : Nat} {b : Nat} (hr : st.length ≤ 4) : pz_R dA (d + 1) 20 36 [v0, v1] (.ref c0 :: .ref b :: st) f Q = pz_o (pz_gu f b 0) (fun _ => pz_C dA d 21 [.ref b, .ref c0] f (fun r f' => pz_R dA (d + 1) 20 39 [v0, v1] (r.toList ++ st) f' Q)) := pz_gcv (As := [.ref c0]) d20_36 rfl rfl rfl hr
theorem d20_39 : decode (pz_b 20) 39 = .ok (.return_, 1) := by decide +kernel
theorem q20_39 {dA : Nat → ClassId} {d : Nat} {f : pz_F} {Q : Option Value → pz_F → Prop} {v0 v1 : Value} : pz_R dA d 20 39 [v0, v1] [] f Q = Q none f := pz_gr (pz_so d20_39 rfl)
/-! P_tellPartner (LLeasePair$Server;)V -/
theorem e21 {dA : Nat → ClassId} {d : Nat} {f : pz_F} {Q : Option Value → pz_F → Prop} {a0 : Nat} {a1 : Nat} : pz_C dA d 21 [.ref a0, .ref a1] f Q = pz_R dA d 21 0 [.ref a0, .ref a1] [] f Q := rfl
theorem d21_0 : decode (pz_b 21) 0 = .ok (.aload_n 1, 1) := by decide +kernel
theorem q21_0 {dA : Nat → ClassId} {d : Nat} {st : List Value} {f : pz_F} {Q : Option Value → pz_F → Prop} {v0 : Value} {x : Nat} : pz_R dA d 21 0 [v0, .ref x] st f Q = pz_R dA d 21 1 [v0, .ref x] (.ref x :: st) f Q := pz_go (pz_so d21_0 rfl)
theorem q21_0n {dA : Nat → ClassId} {d : Nat} {st : List Value} {f : pz_F} {Q : Option Value → pz_F → Prop} {v0 : Value} : pz_R dA d 21 0 [v0, .null] st f Q = pz_R dA d 21 1 [v0, .null] (.null :: st) f Q := pz_go (pz_so d21_0 rfl)
theorem d21_1 : decode (pz_b 21) 1 = .ok (.getfield 46, 3) := by decide +kernel
theorem q21_1 {dA : Nat → ClassId} {d : Nat} {st : List Value} {f : pz_F} {Q : Option Value → pz_F → Prop} {v0 v1 : Value} {a : Nat} : pz_R dA d 21 1 [v0, v1] (.ref a :: st) f Q = pz_o (pz_gf f a 1 2) (fun v => pz_R dA d 21 4 [v0, v1] (v :: st) f Q) := pz_gg d21_1 rfl
theorem d21_4 : decode (pz_b 21) 4 = .ok (.iconst 1, 1) := by decide +kernel
theorem q21_4 {dA : Nat → ClassId} {d : Nat} {st : List Value} {f : pz_F} {Q : Option Value → pz_F → Prop} {v0 v1 : Value} : pz_R dA d 21 4 [v0, v1] st f Q = pz_R dA d 21 5 [v0, v1] (.int 1 :: st) f Q := pz_go (pz_so d21_4 rfl)
theorem d21_5 : decode (pz_b 21) 5 = .ok (.if_icmp .ne 8, 3) := by decide +kernel
theorem q21_5 {dA : Nat → ClassId} {d : Nat} {st : List Value} {f : pz_F} {Q : Option Value → pz_F → Prop} {v0 v1 : Value} {x y : Int32} : pz_R dA d 21 5 [v0, v1] (.int y :: .int x :: st) f Q = (if x = y then pz_R dA d 21 8 [v0, v1] st f Q else pz_R dA d 21 13 [v0, v1] st f Q) := pz_gjn .ne d21_5 rfl
theorem d21_8 : decode (pz_b 21) 8 = .ok (.aload_n 0, 1) := by decide +kernel
theorem q21_8 {dA : Nat → ClassId} {d : Nat} {st : List Value} {f : pz_F} {Q : Option Value → pz_F → Prop} {v1 : Value} {x : Nat} : pz_R dA d 21 8 [.ref x, v1] st f Q = pz_R dA d 21 9 [.ref x, v1] (.ref x :: st) f Q := pz_go (pz_so d21_8 rfl)
theorem d21_9 : decode (pz_b 21) 9 = .ok (.aload_n 1, 1) := by decide +kernel
theorem q21_9 {dA : Nat → ClassId} {d : Nat} {st : List Value} {f : pz_F} {Q : Option Value → pz_F → Prop} {v0 : Value} {x : Nat} : pz_R dA d 21 9 [v0, .ref x] st f Q = pz_R dA d 21 10 [v0, .ref x] (.ref x :: st) f Q := pz_go (pz_so d21_9 rfl)
theorem q21_9n {dA : Nat → ClassId} {d : Nat} {st : List Value} {f : pz_F} {Q : Option Value → pz_F → Prop} {v0 : Value} : pz_R dA d 21 9 [v0, .null] st f Q = pz_R dA d 21 10 [v0, .null] (.null :: st) f Q := pz_go (pz_so d21_9 rfl)
theorem d21_10 : decode (pz_b 21) 10 = .ok (.invokevirtual 160, 3) := by decide +kernel
theorem q21_10 {dA : Nat → ClassId} {d : Nat} {st : List Value} {f : pz_F} {Q : Option Value → pz_F → Prop} {v0 v1 : Value} {c0 : Nat} {b : Nat} (hr : st.length ≤ 4) : pz_R dA (d + 1) 21 10 [v0, v1] (.ref c0 :: .ref b :: st) f Q = pz_o (pz_gu f b 0) (fun _ => pz_C dA d 22 [.ref b, .ref c0] f (fun r f' => pz_R dA (d + 1) 21 13 [v0, v1] (r.toList ++ st) f' Q)) := pz_gcv (As := [.ref c0]) d21_10 rfl rfl rfl hr
theorem d21_13 : decode (pz_b 21) 13 = .ok (.aload_n 1, 1) := by decide +kernel
theorem q21_13 {dA : Nat → ClassId} {d : Nat} {st : List Value} {f : pz_F} {Q : Option Value → pz_F → Prop} {v0 : Value} {x : Nat} : pz_R dA d 21 13 [v0, .ref x] st f Q = pz_R dA d 21 14 [v0, .ref x] (.ref x :: st) f Q := pz_go (pz_so d21_13 rfl)
theorem q21_13n {dA : Nat → ClassId} {d : Nat} {st : List Value} {f : pz_F} {Q : Option Value → pz_F → Prop} {v0 : Value} : pz_R dA d 21 13 [v0, .null] st f Q = pz_R dA d 21 14 [v0, .null] (.null :: st) f Q := pz_go (pz_so d21_13 rfl)
theorem d21_14 : decode (pz_b 21) 14 = .ok (.getfield 46, 3) := by decide +kernel
theorem q21_14 {dA : Nat → ClassId} {d : Nat} {st : List Value} {f : pz_F} {Q : Option Value → pz_F → Prop} {v0 v1 : Value} {a : Nat} : pz_R dA d 21 14 [v0, v1] (.ref a :: st) f Q = pz_o (pz_gf f a 1 2) (fun v => pz_R dA d 21 17 [v0, v1] (v :: st) f Q) := pz_gg d21_14 rfl
theorem d21_17 : decode (pz_b 21) 17 = .ok (.iconst 4, 1) := by decide +kernel
theorem q21_17 {dA : Nat → ClassId} {d : Nat} {st : List Value} {f : pz_F} {Q : Option Value → pz_F → Prop} {v0 v1 : Value} : pz_R dA d 21 17 [v0, v1] st f Q = pz_R dA d 21 18 [v0, v1] (.int 4 :: st) f Q := pz_go (pz_so d21_17 rfl)
theorem d21_18 : decode (pz_b 21) 18 = .ok (.if_icmp .ne 17, 3) := by decide +kernel
theorem q21_18 {dA : Nat → ClassId} {d : Nat} {st : List Value} {f : pz_F} {Q : Option Value → pz_F → Prop} {v0 v1 : Value} {x y : Int32} : pz_R dA d 21 18 [v0, v1] (.int y :: .int x :: st) f Q = (if x = y then pz_R dA d 21 21 [v0, v1] st f Q else pz_R dA d 21 35 [v0, v1] st f Q) := pz_gjn .ne d21_18 rfl
theorem d21_21 : decode (pz_b 21) 21 = .ok (.aload_n 1, 1) := by decide +kernel
theorem q21_21 {dA : Nat → ClassId} {d : Nat} {st : List Value} {f : pz_F} {Q : Option Value → pz_F → Prop} {v0 : Value} {x : Nat} : pz_R dA d 21 21 [v0, .ref x] st f Q = pz_R dA d 21 22 [v0, .ref x] (.ref x :: st) f Q := pz_go (pz_so d21_21 rfl)
theorem q21_21n {dA : Nat → ClassId} {d : Nat} {st : List Value} {f : pz_F} {Q : Option Value → pz_F → Prop} {v0 : Value} : pz_R dA d 21 21 [v0, .null] st f Q = pz_R dA d 21 22 [v0, .null] (.null :: st) f Q := pz_go (pz_so d21_21 rfl)
theorem d21_22 : decode (pz_b 21) 22 = .ok (.getfield 163, 3) := by decide +kernel
theorem q21_22 {dA : Nat → ClassId} {d : Nat} {st : List Value} {f : pz_F} {Q : Option Value → pz_F → Prop} {v0 v1 : Value} {a : Nat} : pz_R dA d 21 22 [v0, v1] (.ref a :: st) f Q = pz_o (pz_gf f a 1 6) (fun v => pz_R dA d 21 25 [v0, v1] (v :: st) f Q) := pz_gg d21_22 rfl
theorem d21_25 : decode (pz_b 21) 25 = .ok (.bipush 63, 2) := by decide +kernel
theorem q21_25 {dA : Nat → ClassId} {d : Nat} {st : List Value} {f : pz_F} {Q : Option Value → pz_F → Prop} {v0 v1 : Value} : pz_R dA d 21 25 [v0, v1] st f Q = pz_R dA d 21 27 [v0, v1] (.int 63 :: st) f Q := pz_go (pz_so d21_25 rfl)
theorem d21_27 : decode (pz_b 21) 27 = .ok (.if_icmp .eq 8, 3) := by decide +kernel
theorem q21_27 {dA : Nat → ClassId} {d : Nat} {st : List Value} {f : pz_F} {Q : Option Value → pz_F → Prop} {v0 v1 : Value} {x y : Int32} : pz_R dA d 21 27 [v0, v1] (.int y :: .int x :: st) f Q = (if x = y then pz_R dA d 21 35 [v0, v1] st f Q else pz_R dA d 21 30 [v0, v1] st f Q) := pz_gjn .eq d21_27 rfl
theorem d21_30 : decode (pz_b 21) 30 = .ok (.aload_n 0, 1) := by decide +kernel
theorem q21_30 {dA : Nat → ClassId} {d : Nat} {st : List Value} {f : pz_F} {Q : Option Value → pz_F → Prop} {v1 : Value} {x : Nat} : pz_R dA d 21 30 [.ref x, v1] st f Q = pz_R dA d 21 31 [.ref x, v1] (.ref x :: st) f Q := pz_go (pz_so d21_30 rfl)
theorem d21_31 : decode (pz_b 21) 31 = .ok (.aload_n 1, 1) := by decide +kernel
theorem q21_31 {dA : Nat → ClassId} {d : Nat} {st : List Value} {f : pz_F} {Q : Option Value → pz_F → Prop} {v0 : Value} {x : Nat} : pz_R dA d 21 31 [v0, .ref x] st f Q = pz_R dA d 21 32 [v0, .ref x] (.ref x :: st) f Q := pz_go (pz_so d21_31 rfl)
theorem q21_31n {dA : Nat → ClassId} {d : Nat} {st : List Value} {f : pz_F} {Q : Option Value → pz_F → Prop} {v0 : Value} : pz_R dA d 21 31 [v0, .null] st f Q = pz_R dA d 21 32 [v0, .null] (.null :: st) f Q := pz_go (pz_so d21_31 rfl)
theorem d21_32 : decode (pz_b 21) 32 = .ok (.invokevirtual 166, 3) := by decide +kernel
theorem q21_32 {dA : Nat → ClassId} {d : Nat} {st : List Value} {f : pz_F} {Q : Option Value → pz_F → Prop} {v0 v1 : Value} {c0 : Nat} {b : Nat} (hr : st.length ≤ 4) : pz_R dA (d + 1) 21 32 [v0, v1] (.ref c0 :: .ref b :: st) f Q = pz_o (pz_gu f b 0) (fun _ => pz_C dA d 24 [.ref b, .ref c0] f (fun r f' => pz_R dA (d + 1) 21 35 [v0, v1] (r.toList ++ st) f' Q)) := pz_gcv (As := [.ref c0]) d21_32 rfl rfl rfl hr
theorem d21_35 : decode (pz_b 21) 35 = .ok (.return_, 1) := by decide +kernel
theorem q21_35 {dA : Nat → ClassId} {d : Nat} {f : pz_F} {Q : Option Value → pz_F → Prop} {v0 v1 : Value} : pz_R dA d 21 35 [v0, v1] [] f Q = Q none f := pz_gr (pz_so d21_35 rfl)
/-! P_sendUpdates (LLeasePair$Server;)V -/
theorem e22 {dA : Nat → ClassId} {d : Nat} {f : pz_F} {Q : Option Value → pz_F → Prop} {a0 : Nat} {a1 : Nat} : pz_C dA d 22 [.ref a0, .ref a1] f Q = pz_R dA d 22 0 [.ref a0, .ref a1, .retAddr 0, .retAddr 0] [] f Q := rfl
theorem d22_0 : decode (pz_b 22) 0 = .ok (.iconst 0, 1) := by decide +kernel
theorem q22_0 {dA : Nat → ClassId} {d : Nat} {st : List Value} {f : pz_F} {Q : Option Value → pz_F → Prop} {v0 v1 v2 v3 : Value} : pz_R dA d 22 0 [v0, v1, v2, v3] st f Q = pz_R dA d 22 1 [v0, v1, v2, v3] (.int 0 :: st) f Q := pz_go (pz_so d22_0 rfl)
theorem d22_1 : decode (pz_b 22) 1 = .ok (.istore_n 2, 1) := by decide +kernel
theorem q22_1 {dA : Nat → ClassId} {d : Nat} {st : List Value} {f : pz_F} {Q : Option Value → pz_F → Prop} {v0 v1 v2 v3 : Value} {x : Int32} : pz_R dA d 22 1 [v0, v1, v2, v3] (.int x :: st) f Q = pz_R dA d 22 2 [v0, v1, .int x, v3] st f Q := pz_go (pz_so d22_1 rfl)
theorem d22_2 : decode (pz_b 22) 2 = .ok (.iconst 0, 1) := by decide +kernel
theorem q22_2 {dA : Nat → ClassId} {d : Nat} {st : List Value} {f : pz_F} {Q : Option Value → pz_F → Prop} {v0 v1 v2 v3 : Value} : pz_R dA d 22 2 [v0, v1, v2, v3] st f Q = pz_R dA d 22 3 [v0, v1, v2, v3] (.int 0 :: st) f Q := pz_go (pz_so d22_2 rfl)
theorem d22_3 : decode (pz_b 22) 3 = .ok (.istore_n 3, 1) := by decide +kernel
theorem q22_3 {dA : Nat → ClassId} {d : Nat} {st : List Value} {f : pz_F} {Q : Option Value → pz_F → Prop} {v0 v1 v2 v3 : Value} {x : Int32} : pz_R dA d 22 3 [v0, v1, v2, v3] (.int x :: st) f Q = pz_R dA d 22 4 [v0, v1, v2, .int x] st f Q := pz_go (pz_so d22_3 rfl)
theorem d22_4 : decode (pz_b 22) 4 = .ok (.iload_n 3, 1) := by decide +kernel
theorem q22_4 {dA : Nat → ClassId} {d : Nat} {st : List Value} {f : pz_F} {Q : Option Value → pz_F → Prop} {v0 v1 v2 : Value} {x : Int32} : pz_R dA d 22 4 [v0, v1, v2, .int x] st f Q = pz_R dA d 22 5 [v0, v1, v2, .int x] (.int x :: st) f Q := pz_go (pz_so d22_4 rfl)
theorem d22_5 : decode (pz_b 22) 5 = .ok (.bipush 6, 2) := by decide +kernel
theorem q22_5 {dA : Nat → ClassId} {d : Nat} {st : List Value} {f : pz_F} {Q : Option Value → pz_F → Prop} {v0 v1 v2 v3 : Value} : pz_R dA d 22 5 [v0, v1, v2, v3] st f Q = pz_R dA d 22 7 [v0, v1, v2, v3] (.int 6 :: st) f Q := pz_go (pz_so d22_5 rfl)
theorem d22_7 : decode (pz_b 22) 7 = .ok (.if_icmp .ge 35, 3) := by decide +kernel
theorem q22_7 {dA : Nat → ClassId} {d : Nat} {st : List Value} {f : pz_F} {Q : Option Value → pz_F → Prop} {v0 v1 v2 v3 : Value} {x y : Int32} : pz_R dA d 22 7 [v0, v1, v2, v3] (.int y :: .int x :: st) f Q = (if y ≤ x then pz_R dA d 22 42 [v0, v1, v2, v3] st f Q else pz_R dA d 22 10 [v0, v1, v2, v3] st f Q) := pz_gjn .ge d22_7 rfl
theorem d22_10 : decode (pz_b 22) 10 = .ok (.iload_n 2, 1) := by decide +kernel
theorem q22_10 {dA : Nat → ClassId} {d : Nat} {st : List Value} {f : pz_F} {Q : Option Value → pz_F → Prop} {v0 v1 v3 : Value} {x : Int32} : pz_R dA d 22 10 [v0, v1, .int x, v3] st f Q = pz_R dA d 22 11 [v0, v1, .int x, v3] (.int x :: st) f Q := pz_go (pz_so d22_10 rfl)
theorem d22_11 : decode (pz_b 22) 11 = .ok (.iconst 2, 1) := by decide +kernel
theorem q22_11 {dA : Nat → ClassId} {d : Nat} {st : List Value} {f : pz_F} {Q : Option Value → pz_F → Prop} {v0 v1 v2 v3 : Value} : pz_R dA d 22 11 [v0, v1, v2, v3] st f Q = pz_R dA d 22 12 [v0, v1, v2, v3] (.int 2 :: st) f Q := pz_go (pz_so d22_11 rfl)
theorem d22_12 : decode (pz_b 22) 12 = .ok (.if_icmp .ge 30, 3) := by decide +kernel
theorem q22_12 {dA : Nat → ClassId} {d : Nat} {st : List Value} {f : pz_F} {Q : Option Value → pz_F → Prop} {v0 v1 v2 v3 : Value} {x y : Int32} : pz_R dA d 22 12 [v0, v1, v2, v3] (.int y :: .int x :: st) f Q = (if y ≤ x then pz_R dA d 22 42 [v0, v1, v2, v3] st f Q else pz_R dA d 22 15 [v0, v1, v2, v3] st f Q) := pz_gjn .ge d22_12 rfl
theorem d22_15 : decode (pz_b 22) 15 = .ok (.aload_n 1, 1) := by decide +kernel
theorem q22_15 {dA : Nat → ClassId} {d : Nat} {st : List Value} {f : pz_F} {Q : Option Value → pz_F → Prop} {v0 v2 v3 : Value} {x : Nat} : pz_R dA d 22 15 [v0, .ref x, v2, v3] st f Q = pz_R dA d 22 16 [v0, .ref x, v2, v3] (.ref x :: st) f Q := pz_go (pz_so d22_15 rfl)
theorem q22_15n {dA : Nat → ClassId} {d : Nat} {st : List Value} {f : pz_F} {Q : Option Value → pz_F → Prop} {v0 v2 v3 : Value} : pz_R dA d 22 15 [v0, .null, v2, v3] st f Q = pz_R dA d 22 16 [v0, .null, v2, v3] (.null :: st) f Q := pz_go (pz_so d22_15 rfl)
theorem d22_16 : decode (pz_b 22) 16 = .ok (.getfield 121, 3) := by decide +kernel
theorem q22_16 {dA : Nat → ClassId} {d : Nat} {st : List Value} {f : pz_F} {Q : Option Value → pz_F → Prop} {v0 v1 v2 v3 : Value} {a : Nat} : pz_R dA d 22 16 [v0, v1, v2, v3] (.ref a :: st) f Q = pz_o (pz_gf f a 1 1) (fun v => pz_R dA d 22 19 [v0, v1, v2, v3] (v :: st) f Q) := pz_gg d22_16 rfl
theorem d22_19 : decode (pz_b 22) 19 = .ok (.iload_n 3, 1) := by decide +kernel
theorem q22_19 {dA : Nat → ClassId} {d : Nat} {st : List Value} {f : pz_F} {Q : Option Value → pz_F → Prop} {v0 v1 v2 : Value} {x : Int32} : pz_R dA d 22 19 [v0, v1, v2, .int x] st f Q = pz_R dA d 22 20 [v0, v1, v2, .int x] (.int x :: st) f Q := pz_go (pz_so d22_19 rfl)
theorem d22_20 : decode (pz_b 22) 20 = .ok (.aaload, 1) := by decide +kernel
theorem q22_20 {dA : Nat → ClassId} {d : Nat} {st : List Value} {f : pz_F} {Q : Option Value → pz_F → Prop} {v0 v1 v2 v3 : Value} {i : Int32} {a : Nat} : pz_R dA d 22 20 [v0, v1, v2, v3] (.int i :: .ref a :: st) f Q = pz_o (pz_rl dA f a i) (fun v => pz_R dA d 22 21 [v0, v1, v2, v3] (v :: st) f Q) := pz_grl d22_20
theorem d22_21 : decode (pz_b 22) 21 = .ok (.getfield 169, 3) := by decide +kernel
theorem q22_21 {dA : Nat → ClassId} {d : Nat} {st : List Value} {f : pz_F} {Q : Option Value → pz_F → Prop} {v0 v1 v2 v3 : Value} {a : Nat} : pz_R dA d 22 21 [v0, v1, v2, v3] (.ref a :: st) f Q = pz_o (pz_gf f a 2 7) (fun v => pz_R dA d 22 24 [v0, v1, v2, v3] (v :: st) f Q) := pz_gg d22_21 rfl
theorem d22_24 : decode (pz_b 22) 24 = .ok (.ifCond .eq 12, 3) := by decide +kernel
theorem q22_24 {dA : Nat → ClassId} {d : Nat} {st : List Value} {f : pz_F} {Q : Option Value → pz_F → Prop} {v0 v1 v2 v3 : Value} {x : Int32} : pz_R dA d 22 24 [v0, v1, v2, v3] (.int x :: st) f Q = (if x = 0 then pz_R dA d 22 36 [v0, v1, v2, v3] st f Q else pz_R dA d 22 27 [v0, v1, v2, v3] st f Q) := pz_gj1 .eq d22_24 rfl
theorem d22_27 : decode (pz_b 22) 27 = .ok (.aload_n 0, 1) := by decide +kernel
theorem q22_27 {dA : Nat → ClassId} {d : Nat} {st : List Value} {f : pz_F} {Q : Option Value → pz_F → Prop} {v1 v2 v3 : Value} {x : Nat} : pz_R dA d 22 27 [.ref x, v1, v2, v3] st f Q = pz_R dA d 22 28 [.ref x, v1, v2, v3] (.ref x :: st) f Q := pz_go (pz_so d22_27 rfl)
theorem d22_28 : decode (pz_b 22) 28 = .ok (.aload_n 1, 1) := by decide +kernel
theorem q22_28 {dA : Nat → ClassId} {d : Nat} {st : List Value} {f : pz_F} {Q : Option Value → pz_F → Prop} {v0 v2 v3 : Value} {x : Nat} : pz_R dA d 22 28 [v0, .ref x, v2, v3] st f Q = pz_R dA d 22 29 [v0, .ref x, v2, v3] (.ref x :: st) f Q := pz_go (pz_so d22_28 rfl)
theorem q22_28n {dA : Nat → ClassId} {d : Nat} {st : List Value} {f : pz_F} {Q : Option Value → pz_F → Prop} {v0 v2 v3 : Value} : pz_R dA d 22 28 [v0, .null, v2, v3] st f Q = pz_R dA d 22 29 [v0, .null, v2, v3] (.null :: st) f Q := pz_go (pz_so d22_28 rfl)
theorem d22_29 : decode (pz_b 22) 29 = .ok (.iload_n 3, 1) := by decide +kernel
theorem q22_29 {dA : Nat → ClassId} {d : Nat} {st : List Value} {f : pz_F} {Q : Option Value → pz_F → Prop} {v0 v1 v2 : Value} {x : Int32} : pz_R dA d 22 29 [v0, v1, v2, .int x] st f Q = pz_R dA d 22 30 [v0, v1, v2, .int x] (.int x :: st) f Q := pz_go (pz_so d22_29 rfl)
theorem d22_30 : decode (pz_b 22) 30 = .ok (.invokevirtual 172, 3) := by decide +kernel
theorem q22_30 {dA : Nat → ClassId} {d : Nat} {st : List Value} {f : pz_F} {Q : Option Value → pz_F → Prop} {v0 v1 v2 v3 : Value} {c0 : Nat} {c1 : Int32} {b : Nat} (hr : st.length ≤ 4) : pz_R dA (d + 1) 22 30 [v0, v1, v2, v3] (.int c1 :: .ref c0 :: .ref b :: st) f Q = pz_o (pz_gu f b 0) (fun _ => pz_C dA d 23 [.ref b, .ref c0, .int c1] f (fun r f' => pz_R dA (d + 1) 22 33 [v0, v1, v2, v3] (r.toList ++ st) f' Q)) := pz_gcv (As := [.ref c0, .int c1]) d22_30 rfl rfl rfl hr
theorem d22_33 : decode (pz_b 22) 33 = .ok (.iinc 2 1, 3) := by decide +kernel
theorem q22_33 {dA : Nat → ClassId} {d : Nat} {st : List Value} {f : pz_F} {Q : Option Value → pz_F → Prop} {v0 v1 v3 : Value} {x : Int32} : pz_R dA d 22 33 [v0, v1, .int x, v3] st f Q = pz_R dA d 22 36 [v0, v1, .int (x + 1), v3] st f Q := pz_go (pz_so d22_33 rfl)
theorem d22_36 : decode (pz_b 22) 36 = .ok (.iinc 3 1, 3) := by decide +kernel
theorem q22_36 {dA : Nat → ClassId} {d : Nat} {st : List Value} {f : pz_F} {Q : Option Value → pz_F → Prop} {v0 v1 v2 : Value} {x : Int32} : pz_R dA d 22 36 [v0, v1, v2, .int x] st f Q = pz_R dA d 22 39 [v0, v1, v2, .int (x + 1)] st f Q := pz_go (pz_so d22_36 rfl)
theorem d22_39 : decode (pz_b 22) 39 = .ok (.goto (-35), 3) := by decide +kernel
theorem q22_39 {dA : Nat → ClassId} {d : Nat} {st : List Value} {f : pz_F} {Q : Option Value → pz_F → Prop} {v0 v1 v2 v3 : Value} : pz_R dA d 22 39 [v0, v1, v2, v3] st f Q = pz_R dA d 22 4 [v0, v1, v2, v3] st f Q := pz_go (pz_so d22_39 rfl)
theorem d22_42 : decode (pz_b 22) 42 = .ok (.return_, 1) := by decide +kernel
theorem q22_42 {dA : Nat → ClassId} {d : Nat} {f : pz_F} {Q : Option Value → pz_F → Prop} {v0 v1 v2 v3 : Value} : pz_R dA d 22 42 [v0, v1, v2, v3] [] f Q = Q none f := pz_gr (pz_so d22_42 rfl)
/-! P_sendUpdate (LLeasePair$Server;I)V -/
theorem e23 {dA : Nat → ClassId} {d : Nat} {f : pz_F} {Q : Option Value → pz_F → Prop} {a0 : Nat} {a1 : Nat} {a2 : Int32} : pz_C dA d 23 [.ref a0, .ref a1, .int a2] f Q = pz_R dA d 23 0 [.ref a0, .ref a1, .int a2, .retAddr 0, .retAddr 0] [] f Q := rfl
theorem d23_0 : decode (pz_b 23) 0 = .ok (.aload_n 0, 1) := by decide +kernel
theorem q23_0 {dA : Nat → ClassId} {d : Nat} {st : List Value} {f : pz_F} {Q : Option Value → pz_F → Prop} {v1 v2 v3 v4 : Value} {x : Nat} : pz_R dA d 23 0 [.ref x, v1, v2, v3, v4] st f Q = pz_R dA d 23 1 [.ref x, v1, v2, v3, v4] (.ref x :: st) f Q := pz_go (pz_so d23_0 rfl)
theorem d23_1 : decode (pz_b 23) 1 = .ok (.getfield 36, 3) := by decide +kernel
theorem q23_1 {dA : Nat → ClassId} {d : Nat} {st : List Value} {f : pz_F} {Q : Option Value → pz_F → Prop} {v0 v1 v2 v3 v4 : Value} {a : Nat} : pz_R dA d 23 1 [v0, v1, v2, v3, v4] (.ref a :: st) f Q = pz_o (pz_gf f a 0 4) (fun v => pz_R dA d 23 4 [v0, v1, v2, v3, v4] (v :: st) f Q) := pz_gg d23_1 rfl
theorem d23_4 : decode (pz_b 23) 4 = .ok (.iconst 4, 1) := by decide +kernel
theorem q23_4 {dA : Nat → ClassId} {d : Nat} {st : List Value} {f : pz_F} {Q : Option Value → pz_F → Prop} {v0 v1 v2 v3 v4 : Value} : pz_R dA d 23 4 [v0, v1, v2, v3, v4] st f Q = pz_R dA d 23 5 [v0, v1, v2, v3, v4] (.int 4 :: st) f Q := pz_go (pz_so d23_4 rfl)
theorem d23_5 : decode (pz_b 23) 5 = .ok (.aload_n 1, 1) := by decide +kernel
theorem q23_5 {dA : Nat → ClassId} {d : Nat} {st : List Value} {f : pz_F} {Q : Option Value → pz_F → Prop} {v0 v2 v3 v4 : Value} {x : Nat} : pz_R dA d 23 5 [v0, .ref x, v2, v3, v4] st f Q = pz_R dA d 23 6 [v0, .ref x, v2, v3, v4] (.ref x :: st) f Q := pz_go (pz_so d23_5 rfl)
theorem q23_5n {dA : Nat → ClassId} {d : Nat} {st : List Value} {f : pz_F} {Q : Option Value → pz_F → Prop} {v0 v2 v3 v4 : Value} : pz_R dA d 23 5 [v0, .null, v2, v3, v4] st f Q = pz_R dA d 23 6 [v0, .null, v2, v3, v4] (.null :: st) f Q := pz_go (pz_so d23_5 rfl)
theorem d23_6 : decode (pz_b 23) 6 = .ok (.getfield 140, 3) := by decide +kernel
theorem q23_6 {dA : Nat → ClassId} {d : Nat} {st : List Value} {f : pz_F} {Q : Option Value → pz_F → Prop} {v0 v1 v2 v3 v4 : Value} {a : Nat} : pz_R dA d 23 6 [v0, v1, v2, v3, v4] (.ref a :: st) f Q = pz_o (pz_gf f a 1 0) (fun v => pz_R dA d 23 9 [v0, v1, v2, v3, v4] (v :: st) f Q) := pz_gg d23_6 rfl
theorem d23_9 : decode (pz_b 23) 9 = .ok (.iconst 1, 1) := by decide +kernel
theorem q23_9 {dA : Nat → ClassId} {d : Nat} {st : List Value} {f : pz_F} {Q : Option Value → pz_F → Prop} {v0 v1 v2 v3 v4 : Value} : pz_R dA d 23 9 [v0, v1, v2, v3, v4] st f Q = pz_R dA d 23 10 [v0, v1, v2, v3, v4] (.int 1 :: st) f Q := pz_go (pz_so d23_9 rfl)
theorem d23_10 : decode (pz_b 23) 10 = .ok (.aload_n 1, 1) := by decide +kernel
theorem q23_10 {dA : Nat → ClassId} {d : Nat} {st : List Value} {f : pz_F} {Q : Option Value → pz_F → Prop} {v0 v2 v3 v4 : Value} {x : Nat} : pz_R dA d 23 10 [v0, .ref x, v2, v3, v4] st f Q = pz_R dA d 23 11 [v0, .ref x, v2, v3, v4] (.ref x :: st) f Q := pz_go (pz_so d23_10 rfl)
theorem q23_10n {dA : Nat → ClassId} {d : Nat} {st : List Value} {f : pz_F} {Q : Option Value → pz_F → Prop} {v0 v2 v3 v4 : Value} : pz_R dA d 23 10 [v0, .null, v2, v3, v4] st f Q = pz_R dA d 23 11 [v0, .null, v2, v3, v4] (.null :: st) f Q := pz_go (pz_so d23_10 rfl)
theorem d23_11 : decode (pz_b 23) 11 = .ok (.getfield 140, 3) := by decide +kernel
theorem q23_11 {dA : Nat → ClassId} {d : Nat} {st : List Value} {f : pz_F} {Q : Option Value → pz_F → Prop} {v0 v1 v2 v3 v4 : Value} {a : Nat} : pz_R dA d 23 11 [v0, v1, v2, v3, v4] (.ref a :: st) f Q = pz_o (pz_gf f a 1 0) (fun v => pz_R dA d 23 14 [v0, v1, v2, v3, v4] (v :: st) f Q) := pz_gg d23_11 rfl
theorem d23_14 : decode (pz_b 23) 14 = .ok (.isub, 1) := by decide +kernel
theorem q23_14 {dA : Nat → ClassId} {d : Nat} {st : List Value} {f : pz_F} {Q : Option Value → pz_F → Prop} {v0 v1 v2 v3 v4 : Value} {x y : Int32} : pz_R dA d 23 14 [v0, v1, v2, v3, v4] (.int y :: .int x :: st) f Q = pz_R dA d 23 15 [v0, v1, v2, v3, v4] (.int (x - y) :: st) f Q := pz_go (pz_so d23_14 rfl)
theorem d23_15 : decode (pz_b 23) 15 = .ok (.aload_n 0, 1) := by decide +kernel
theorem q23_15 {dA : Nat → ClassId} {d : Nat} {st : List Value} {f : pz_F} {Q : Option Value → pz_F → Prop} {v1 v2 v3 v4 : Value} {x : Nat} : pz_R dA d 23 15 [.ref x, v1, v2, v3, v4] st f Q = pz_R dA d 23 16 [.ref x, v1, v2, v3, v4] (.ref x :: st) f Q := pz_go (pz_so d23_15 rfl)
theorem d23_16 : decode (pz_b 23) 16 = .ok (.getfield 7, 3) := by decide +kernel
theorem q23_16 {dA : Nat → ClassId} {d : Nat} {st : List Value} {f : pz_F} {Q : Option Value → pz_F → Prop} {v0 v1 v2 v3 v4 : Value} {a : Nat} : pz_R dA d 23 16 [v0, v1, v2, v3, v4] (.ref a :: st) f Q = pz_o (pz_gf f a 0 0) (fun v => pz_R dA d 23 19 [v0, v1, v2, v3, v4] (v :: st) f Q) := pz_gg d23_16 rfl
theorem d23_19 : decode (pz_b 23) 19 = .ok (.invokevirtual 76, 3) := by decide +kernel
theorem q23_19 {dA : Nat → ClassId} {d : Nat} {st : List Value} {f : pz_F} {Q : Option Value → pz_F → Prop} {v0 v1 v2 v3 v4 : Value} {c0 : Int32} {c1 : Int32} {c2 : Int32} {c3 : Int32} {b : Nat} (hr : st.length ≤ 4) : pz_R dA (d + 1) 23 19 [v0, v1, v2, v3, v4] (.int c3 :: .int c2 :: .int c1 :: .int c0 :: .ref b :: st) f Q = pz_o (pz_gu f b 4) (fun _ => pz_C dA d 74 [.ref b, .int c0, .int c1, .int c2, .int c3] f (fun r f' => pz_R dA (d + 1) 23 22 [v0, v1, v2, v3, v4] (r.toList ++ st) f' Q)) := pz_gcv (As := [.int c0, .int c1, .int c2, .int c3]) d23_19 rfl rfl rfl hr
theorem d23_22 : decode (pz_b 23) 22 = .ok (.astore_n 3, 1) := by decide +kernel
theorem q23_22 {dA : Nat → ClassId} {d : Nat} {st : List Value} {f : pz_F} {Q : Option Value → pz_F → Prop} {v0 v1 v2 v3 v4 : Value} {x : Nat} : pz_R dA d 23 22 [v0, v1, v2, v3, v4] (.ref x :: st) f Q = pz_R dA d 23 23 [v0, v1, v2, .ref x, v4] st f Q := pz_go (pz_so d23_22 rfl)
theorem q23_22n {dA : Nat → ClassId} {d : Nat} {st : List Value} {f : pz_F} {Q : Option Value → pz_F → Prop} {v0 v1 v2 v3 v4 : Value} : pz_R dA d 23 22 [v0, v1, v2, v3, v4] (.null :: st) f Q = pz_R dA d 23 23 [v0, v1, v2, .null, v4] st f Q := pz_go (pz_so d23_22 rfl)
theorem d23_23 : decode (pz_b 23) 23 = .ok (.aload_n 3, 1) := by decide +kernel
theorem q23_23 {dA : Nat → ClassId} {d : Nat} {st : List Value} {f : pz_F} {Q : Option Value → pz_F → Prop} {v0 v1 v2 v4 : Value} {x : Nat} : pz_R dA d 23 23 [v0, v1, v2, .ref x, v4] st f Q = pz_R dA d 23 24 [v0, v1, v2, .ref x, v4] (.ref x :: st) f Q := pz_go (pz_so d23_23 rfl)
theorem q23_23n {dA : Nat → ClassId} {d : Nat} {st : List Value} {f : pz_F} {Q : Option Value → pz_F → Prop} {v0 v1 v2 v4 : Value} : pz_R dA d 23 23 [v0, v1, v2, .null, v4] st f Q = pz_R dA d 23 24 [v0, v1, v2, .null, v4] (.null :: st) f Q := pz_go (pz_so d23_23 rfl)
theorem d23_24 : decode (pz_b 23) 24 = .ok (.ifnull 80, 3) := by decide +kernel
theorem q23_24 {dA : Nat → ClassId} {d : Nat} {st : List Value} {f : pz_F} {Q : Option Value → pz_F → Prop} {v0 v1 v2 v3 v4 : Value} {x : Nat} : pz_R dA d 23 24 [v0, v1, v2, v3, v4] (.ref x :: st) f Q = pz_R dA d 23 27 [v0, v1, v2, v3, v4] st f Q := pz_go (pz_so d23_24 rfl)
theorem q23_24n {dA : Nat → ClassId} {d : Nat} {st : List Value} {f : pz_F} {Q : Option Value → pz_F → Prop} {v0 v1 v2 v3 v4 : Value} : pz_R dA d 23 24 [v0, v1, v2, v3, v4] (.null :: st) f Q = pz_R dA d 23 104 [v0, v1, v2, v3, v4] st f Q := pz_go (pz_so d23_24 rfl)
theorem d23_27 : decode (pz_b 23) 27 = .ok (.aload_n 1, 1) := by decide +kernel
theorem q23_27 {dA : Nat → ClassId} {d : Nat} {st : List Value} {f : pz_F} {Q : Option Value → pz_F → Prop} {v0 v2 v3 v4 : Value} {x : Nat} : pz_R dA d 23 27 [v0, .ref x, v2, v3, v4] st f Q = pz_R dA d 23 28 [v0, .ref x, v2, v3, v4] (.ref x :: st) f Q := pz_go (pz_so d23_27 rfl)
theorem q23_27n {dA : Nat → ClassId} {d : Nat} {st : List Value} {f : pz_F} {Q : Option Value → pz_F → Prop} {v0 v2 v3 v4 : Value} : pz_R dA d 23 27 [v0, .null, v2, v3, v4] st f Q = pz_R dA d 23 28 [v0, .null, v2, v3, v4] (.null :: st) f Q := pz_go (pz_so d23_27 rfl)
theorem d23_28 : decode (pz_b 23) 28 = .ok (.getfield 121, 3) := by decide +kernel
theorem q23_28 {dA : Nat → ClassId} {d : Nat} {st : List Value} {f : pz_F} {Q : Option Value → pz_F → Prop} {v0 v1 v2 v3 v4 : Value} {a : Nat} : pz_R dA d 23 28 [v0, v1, v2, v3, v4] (.ref a :: st) f Q = pz_o (pz_gf f a 1 1) (fun v => pz_R dA d 23 31 [v0, v1, v2, v3, v4] (v :: st) f Q) := pz_gg d23_28 rfl
theorem d23_31 : decode (pz_b 23) 31 = .ok (.iload_n 2, 1) := by decide +kernel
theorem q23_31 {dA : Nat → ClassId} {d : Nat} {st : List Value} {f : pz_F} {Q : Option Value → pz_F → Prop} {v0 v1 v3 v4 : Value} {x : Int32} : pz_R dA d 23 31 [v0, v1, .int x, v3, v4] st f Q = pz_R dA d 23 32 [v0, v1, .int x, v3, v4] (.int x :: st) f Q := pz_go (pz_so d23_31 rfl)
theorem d23_32 : decode (pz_b 23) 32 = .ok (.aaload, 1) := by decide +kernel
theorem q23_32 {dA : Nat → ClassId} {d : Nat} {st : List Value} {f : pz_F} {Q : Option Value → pz_F → Prop} {v0 v1 v2 v3 v4 : Value} {i : Int32} {a : Nat} : pz_R dA d 23 32 [v0, v1, v2, v3, v4] (.int i :: .ref a :: st) f Q = pz_o (pz_rl dA f a i) (fun v => pz_R dA d 23 33 [v0, v1, v2, v3, v4] (v :: st) f Q) := pz_grl d23_32
theorem d23_33 : decode (pz_b 23) 33 = .ok (.astore 4, 2) := by decide +kernel
theorem q23_33 {dA : Nat → ClassId} {d : Nat} {st : List Value} {f : pz_F} {Q : Option Value → pz_F → Prop} {v0 v1 v2 v3 v4 : Value} {x : Nat} : pz_R dA d 23 33 [v0, v1, v2, v3, v4] (.ref x :: st) f Q = pz_R dA d 23 35 [v0, v1, v2, v3, .ref x] st f Q := pz_go (pz_so d23_33 rfl)
theorem q23_33n {dA : Nat → ClassId} {d : Nat} {st : List Value} {f : pz_F} {Q : Option Value → pz_F → Prop} {v0 v1 v2 v3 v4 : Value} : pz_R dA d 23 33 [v0, v1, v2, v3, v4] (.null :: st) f Q = pz_R dA d 23 35 [v0, v1, v2, v3, .null] st f Q := pz_go (pz_so d23_33 rfl)
theorem d23_35 : decode (pz_b 23) 35 = .ok (.aload_n 3, 1) := by decide +kernel
theorem q23_35 {dA : Nat → ClassId} {d : Nat} {st : List Value} {f : pz_F} {Q : Option Value → pz_F → Prop} {v0 v1 v2 v4 : Value} {x : Nat} : pz_R dA d 23 35 [v0, v1, v2, .ref x, v4] st f Q = pz_R dA d 23 36 [v0, v1, v2, .ref x, v4] (.ref x :: st) f Q := pz_go (pz_so d23_35 rfl)
theorem q23_35n {dA : Nat → ClassId} {d : Nat} {st : List Value} {f : pz_F} {Q : Option Value → pz_F → Prop} {v0 v1 v2 v4 : Value} : pz_R dA d 23 35 [v0, v1, v2, .null, v4] st f Q = pz_R dA d 23 36 [v0, v1, v2, .null, v4] (.null :: st) f Q := pz_go (pz_so d23_35 rfl)
theorem d23_36 : decode (pz_b 23) 36 = .ok (.iload_n 2, 1) := by decide +kernel
theorem q23_36 {dA : Nat → ClassId} {d : Nat} {st : List Value} {f : pz_F} {Q : Option Value → pz_F → Prop} {v0 v1 v3 v4 : Value} {x : Int32} : pz_R dA d 23 36 [v0, v1, .int x, v3, v4] st f Q = pz_R dA d 23 37 [v0, v1, .int x, v3, v4] (.int x :: st) f Q := pz_go (pz_so d23_36 rfl)
theorem d23_37 : decode (pz_b 23) 37 = .ok (.putfield 80, 3) := by decide +kernel
theorem q23_37 {dA : Nat → ClassId} {d : Nat} {st : List Value} {f : pz_F} {Q : Option Value → pz_F → Prop} {v0 v1 v2 v3 v4 : Value} {x : Int32} {a : Nat} : pz_R dA d 23 37 [v0, v1, v2, v3, v4] (.int x :: .ref a :: st) f Q = pz_o (pz_pf f a 5 5 (.int x)) (fun f' => pz_R dA d 23 40 [v0, v1, v2, v3, v4] st f' Q) := pz_gp d23_37 rfl rfl rfl rfl
theorem d23_40 : decode (pz_b 23) 40 = .ok (.aload_n 3, 1) := by decide +kernel
theorem q23_40 {dA : Nat → ClassId} {d : Nat} {st : List Value} {f : pz_F} {Q : Option Value → pz_F → Prop} {v0 v1 v2 v4 : Value} {x : Nat} : pz_R dA d 23 40 [v0, v1, v2, .ref x, v4] st f Q = pz_R dA d 23 41 [v0, v1, v2, .ref x, v4] (.ref x :: st) f Q := pz_go (pz_so d23_40 rfl)
theorem q23_40n {dA : Nat → ClassId} {d : Nat} {st : List Value} {f : pz_F} {Q : Option Value → pz_F → Prop} {v0 v1 v2 v4 : Value} : pz_R dA d 23 40 [v0, v1, v2, .null, v4] st f Q = pz_R dA d 23 41 [v0, v1, v2, .null, v4] (.null :: st) f Q := pz_go (pz_so d23_40 rfl)
theorem d23_41 : decode (pz_b 23) 41 = .ok (.aload 4, 2) := by decide +kernel
theorem q23_41 {dA : Nat → ClassId} {d : Nat} {st : List Value} {f : pz_F} {Q : Option Value → pz_F → Prop} {v0 v1 v2 v3 : Value} {x : Nat} : pz_R dA d 23 41 [v0, v1, v2, v3, .ref x] st f Q = pz_R dA d 23 43 [v0, v1, v2, v3, .ref x] (.ref x :: st) f Q := pz_go (pz_so d23_41 rfl)
theorem q23_41n {dA : Nat → ClassId} {d : Nat} {st : List Value} {f : pz_F} {Q : Option Value → pz_F → Prop} {v0 v1 v2 v3 : Value} : pz_R dA d 23 41 [v0, v1, v2, v3, .null] st f Q = pz_R dA d 23 43 [v0, v1, v2, v3, .null] (.null :: st) f Q := pz_go (pz_so d23_41 rfl)
theorem d23_43 : decode (pz_b 23) 43 = .ok (.getfield 176, 3) := by decide +kernel
theorem q23_43 {dA : Nat → ClassId} {d : Nat} {st : List Value} {f : pz_F} {Q : Option Value → pz_F → Prop} {v0 v1 v2 v3 v4 : Value} {a : Nat} : pz_R dA d 23 43 [v0, v1, v2, v3, v4] (.ref a :: st) f Q = pz_o (pz_gf f a 2 0) (fun v => pz_R dA d 23 46 [v0, v1, v2, v3, v4] (v :: st) f Q) := pz_gg d23_43 rfl
theorem d23_46 : decode (pz_b 23) 46 = .ok (.putfield 179, 3) := by decide +kernel
theorem q23_46 {dA : Nat → ClassId} {d : Nat} {st : List Value} {f : pz_F} {Q : Option Value → pz_F → Prop} {v0 v1 v2 v3 v4 : Value} {x : Int32} {a : Nat} : pz_R dA d 23 46 [v0, v1, v2, v3, v4] (.int x :: .ref a :: st) f Q = pz_o (pz_pf f a 5 6 (.int x)) (fun f' => pz_R dA d 23 49 [v0, v1, v2, v3, v4] st f' Q) := pz_gp d23_46 rfl rfl rfl rfl
theorem d23_49 : decode (pz_b 23) 49 = .ok (.aload_n 3, 1) := by decide +kernel
theorem q23_49 {dA : Nat → ClassId} {d : Nat} {st : List Value} {f : pz_F} {Q : Option Value → pz_F → Prop} {v0 v1 v2 v4 : Value} {x : Nat} : pz_R dA d 23 49 [v0, v1, v2, .ref x, v4] st f Q = pz_R dA d 23 50 [v0, v1, v2, .ref x, v4] (.ref x :: st) f Q := pz_go (pz_so d23_49 rfl)
theorem q23_49n {dA : Nat → ClassId} {d : Nat} {st : List Value} {f : pz_F} {Q : Option Value → pz_F → Prop} {v0 v1 v2 v4 : Value} : pz_R dA d 23 49 [v0, v1, v2, .null, v4] st f Q = pz_R dA d 23 50 [v0, v1, v2, .null, v4] (.null :: st) f Q := pz_go (pz_so d23_49 rfl)
theorem d23_50 : decode (pz_b 23) 50 = .ok (.aload 4, 2) := by decide +kernel
theorem q23_50 {dA : Nat → ClassId} {d : Nat} {st : List Value} {f : pz_F} {Q : Option Value → pz_F → Prop} {v0 v1 v2 v3 : Value} {x : Nat} : pz_R dA d 23 50 [v0, v1, v2, v3, .ref x] st f Q = pz_R dA d 23 52 [v0, v1, v2, v3, .ref x] (.ref x :: st) f Q := pz_go (pz_so d23_50 rfl)
theorem q23_50n {dA : Nat → ClassId} {d : Nat} {st : List Value} {f : pz_F} {Q : Option Value → pz_F → Prop} {v0 v1 v2 v3 : Value} : pz_R dA d 23 50 [v0, v1, v2, v3, .null] st f Q = pz_R dA d 23 52 [v0, v1, v2, v3, .null] (.null :: st) f Q := pz_go (pz_so d23_50 rfl)
theorem d23_52 : decode (pz_b 23) 52 = .ok (.getfield 182, 3) := by decide +kernel
theorem q23_52 {dA : Nat → ClassId} {d : Nat} {st : List Value} {f : pz_F} {Q : Option Value → pz_F → Prop} {v0 v1 v2 v3 v4 : Value} {a : Nat} : pz_R dA d 23 52 [v0, v1, v2, v3, v4] (.ref a :: st) f Q = pz_o (pz_gf f a 2 1) (fun v => pz_R dA d 23 55 [v0, v1, v2, v3, v4] (v :: st) f Q) := pz_gg d23_52 rfl
theorem d23_55 : decode (pz_b 23) 55 = .ok (.putfield 185, 3) := by decide +kernel
theorem q23_55 {dA : Nat → ClassId} {d : Nat} {st : List Value} {f : pz_F} {Q : Option Value → pz_F → Prop} {v0 v1 v2 v3 v4 : Value} {x : Int32} {a : Nat} : pz_R dA d 23 55 [v0, v1, v2, v3, v4] (.int x :: .ref a :: st) f Q = pz_o (pz_pf f a 5 7 (.int x)) (fun f' => pz_R dA d 23 58 [v0, v1, v2, v3, v4] st f' Q) := pz_gp d23_55 rfl rfl rfl rfl
theorem d23_58 : decode (pz_b 23) 58 = .ok (.aload_n 3, 1) := by decide +kernel
theorem q23_58 {dA : Nat → ClassId} {d : Nat} {st : List Value} {f : pz_F} {Q : Option Value → pz_F → Prop} {v0 v1 v2 v4 : Value} {x : Nat} : pz_R dA d 23 58 [v0, v1, v2, .ref x, v4] st f Q = pz_R dA d 23 59 [v0, v1, v2, .ref x, v4] (.ref x :: st) f Q := pz_go (pz_so d23_58 rfl)
theorem q23_58n {dA : Nat → ClassId} {d : Nat} {st : List Value} {f : pz_F} {Q : Option Value → pz_F → Prop} {v0 v1 v2 v4 : Value} : pz_R dA d 23 58 [v0, v1, v2, .null, v4] st f Q = pz_R dA d 23 59 [v0, v1, v2, .null, v4] (.null :: st) f Q := pz_go (pz_so d23_58 rfl)
theorem d23_59 : decode (pz_b 23) 59 = .ok (.aload 4, 2) := by decide +kernel
theorem q23_59 {dA : Nat → ClassId} {d : Nat} {st : List Value} {f : pz_F} {Q : Option Value → pz_F → Prop} {v0 v1 v2 v3 : Value} {x : Nat} : pz_R dA d 23 59 [v0, v1, v2, v3, .ref x] st f Q = pz_R dA d 23 61 [v0, v1, v2, v3, .ref x] (.ref x :: st) f Q := pz_go (pz_so d23_59 rfl)
theorem q23_59n {dA : Nat → ClassId} {d : Nat} {st : List Value} {f : pz_F} {Q : Option Value → pz_F → Prop} {v0 v1 v2 v3 : Value} : pz_R dA d 23 59 [v0, v1, v2, v3, .null] st f Q = pz_R dA d 23 61 [v0, v1, v2, v3, .null] (.null :: st) f Q := pz_go (pz_so d23_59 rfl)
theorem d23_61 : decode (pz_b 23) 61 = .ok (.getfield 186, 3) := by decide +kernel
theorem q23_61 {dA : Nat → ClassId} {d : Nat} {st : List Value} {f : pz_F} {Q : Option Value → pz_F → Prop} {v0 v1 v2 v3 v4 : Value} {a : Nat} : pz_R dA d 23 61 [v0, v1, v2, v3, v4] (.ref a :: st) f Q = pz_o (pz_gf f a 2 2) (fun v => pz_R dA d 23 64 [v0, v1, v2, v3, v4] (v :: st) f Q) := pz_gg d23_61 rfl
theorem d23_64 : decode (pz_b 23) 64 = .ok (.putfield 189, 3) := by decide +kernel
theorem q23_64 {dA : Nat → ClassId} {d : Nat} {st : List Value} {f : pz_F} {Q : Option Value → pz_F → Prop} {v0 v1 v2 v3 v4 : Value} {x : Int32} {a : Nat} : pz_R dA d 23 64 [v0, v1, v2, v3, v4] (.int x :: .ref a :: st) f Q = pz_o (pz_pf f a 5 8 (.int x)) (fun f' => pz_R dA d 23 67 [v0, v1, v2, v3, v4] st f' Q) := pz_gp d23_64 rfl rfl rfl rfl
theorem d23_67 : decode (pz_b 23) 67 = .ok (.aload_n 3, 1) := by decide +kernel
theorem q23_67 {dA : Nat → ClassId} {d : Nat} {st : List Value} {f : pz_F} {Q : Option Value → pz_F → Prop} {v0 v1 v2 v4 : Value} {x : Nat} : pz_R dA d 23 67 [v0, v1, v2, .ref x, v4] st f Q = pz_R dA d 23 68 [v0, v1, v2, .ref x, v4] (.ref x :: st) f Q := pz_go (pz_so d23_67 rfl)
theorem q23_67n {dA : Nat → ClassId} {d : Nat} {st : List Value} {f : pz_F} {Q : Option Value → pz_F → Prop} {v0 v1 v2 v4 : Value} : pz_R dA d 23 67 [v0, v1, v2, .null, v4] st f Q = pz_R dA d 23 68 [v0, v1, v2, .null, v4] (.null :: st) f Q := pz_go (pz_so d23_67 rfl)
theorem d23_68 : decode (pz_b 23) 68 = .ok (.aload 4, 2) := by decide +kernel
theorem q23_68 {dA : Nat → ClassId} {d : Nat} {st : List Value} {f : pz_F} {Q : Option Value → pz_F → Prop} {v0 v1 v2 v3 : Value} {x : Nat} : pz_R dA d 23 68 [v0, v1, v2, v3, .ref x] st f Q = pz_R dA d 23 70 [v0, v1, v2, v3, .ref x] (.ref x :: st) f Q := pz_go (pz_so d23_68 rfl)
theorem q23_68n {dA : Nat → ClassId} {d : Nat} {st : List Value} {f : pz_F} {Q : Option Value → pz_F → Prop} {v0 v1 v2 v3 : Value} : pz_R dA d 23 68 [v0, v1, v2, v3, .null] st f Q = pz_R dA d 23 70 [v0, v1, v2, v3, .null] (.null :: st) f Q := pz_go (pz_so d23_68 rfl)
theorem d23_70 : decode (pz_b 23) 70 = .ok (.getfield 190, 3) := by decide +kernel
theorem q23_70 {dA : Nat → ClassId} {d : Nat} {st : List Value} {f : pz_F} {Q : Option Value → pz_F → Prop} {v0 v1 v2 v3 v4 : Value} {a : Nat} : pz_R dA d 23 70 [v0, v1, v2, v3, v4] (.ref a :: st) f Q = pz_o (pz_gf f a 2 5) (fun v => pz_R dA d 23 73 [v0, v1, v2, v3, v4] (v :: st) f Q) := pz_gg d23_70 rfl
theorem d23_73 : decode (pz_b 23) 73 = .ok (.putfield 193, 3) := by decide +kernel
theorem q23_73 {dA : Nat → ClassId} {d : Nat} {st : List Value} {f : pz_F} {Q : Option Value → pz_F → Prop} {v0 v1 v2 v3 v4 : Value} {x : Int32} {a : Nat} : pz_R dA d 23 73 [v0, v1, v2, v3, v4] (.int x :: .ref a :: st) f Q = pz_o (pz_pf f a 5 9 (.int x)) (fun f' => pz_R dA d 23 76 [v0, v1, v2, v3, v4] st f' Q) := pz_gp d23_73 rfl rfl rfl rfl
theorem d23_76 : decode (pz_b 23) 76 = .ok (.aload_n 3, 1) := by decide +kernel
theorem q23_76 {dA : Nat → ClassId} {d : Nat} {st : List Value} {f : pz_F} {Q : Option Value → pz_F → Prop} {v0 v1 v2 v4 : Value} {x : Nat} : pz_R dA d 23 76 [v0, v1, v2, .ref x, v4] st f Q = pz_R dA d 23 77 [v0, v1, v2, .ref x, v4] (.ref x :: st) f Q := pz_go (pz_so d23_76 rfl)
theorem q23_76n {dA : Nat → ClassId} {d : Nat} {st : List Value} {f : pz_F} {Q : Option Value → pz_F → Prop} {v0 v1 v2 v4 : Value} : pz_R dA d 23 76 [v0, v1, v2, .null, v4] st f Q = pz_R dA d 23 77 [v0, v1, v2, .null, v4] (.null :: st) f Q := pz_go (pz_so d23_76 rfl)
theorem d23_77 : decode (pz_b 23) 77 = .ok (.aload 4, 2) := by decide +kernel
theorem q23_77 {dA : Nat → ClassId} {d : Nat} {st : List Value} {f : pz_F} {Q : Option Value → pz_F → Prop} {v0 v1 v2 v3 : Value} {x : Nat} : pz_R dA d 23 77 [v0, v1, v2, v3, .ref x] st f Q = pz_R dA d 23 79 [v0, v1, v2, v3, .ref x] (.ref x :: st) f Q := pz_go (pz_so d23_77 rfl)
theorem q23_77n {dA : Nat → ClassId} {d : Nat} {st : List Value} {f : pz_F} {Q : Option Value → pz_F → Prop} {v0 v1 v2 v3 : Value} : pz_R dA d 23 77 [v0, v1, v2, v3, .null] st f Q = pz_R dA d 23 79 [v0, v1, v2, v3, .null] (.null :: st) f Q := pz_go (pz_so d23_77 rfl)
theorem d23_79 : decode (pz_b 23) 79 = .ok (.getfield 194, 3) := by decide +kernel
theorem q23_79 {dA : Nat → ClassId} {d : Nat} {st : List Value} {f : pz_F} {Q : Option Value → pz_F → Prop} {v0 v1 v2 v3 v4 : Value} {a : Nat} : pz_R dA d 23 79 [v0, v1, v2, v3, v4] (.ref a :: st) f Q = pz_o (pz_gf f a 2 6) (fun v => pz_R dA d 23 82 [v0, v1, v2, v3, v4] (v :: st) f Q) := pz_gg d23_79 rfl
theorem d23_82 : decode (pz_b 23) 82 = .ok (.putfield 197, 3) := by decide +kernel
theorem q23_82 {dA : Nat → ClassId} {d : Nat} {st : List Value} {f : pz_F} {Q : Option Value → pz_F → Prop} {v0 v1 v2 v3 v4 : Value} {x : Int32} {a : Nat} : pz_R dA d 23 82 [v0, v1, v2, v3, v4] (.int x :: .ref a :: st) f Q = pz_o (pz_pf f a 5 10 (.int x)) (fun f' => pz_R dA d 23 85 [v0, v1, v2, v3, v4] st f' Q) := pz_gp d23_82 rfl rfl rfl rfl
theorem d23_85 : decode (pz_b 23) 85 = .ok (.aload_n 3, 1) := by decide +kernel
theorem q23_85 {dA : Nat → ClassId} {d : Nat} {st : List Value} {f : pz_F} {Q : Option Value → pz_F → Prop} {v0 v1 v2 v4 : Value} {x : Nat} : pz_R dA d 23 85 [v0, v1, v2, .ref x, v4] st f Q = pz_R dA d 23 86 [v0, v1, v2, .ref x, v4] (.ref x :: st) f Q := pz_go (pz_so d23_85 rfl)
theorem q23_85n {dA : Nat → ClassId} {d : Nat} {st : List Value} {f : pz_F} {Q : Option Value → pz_F → Prop} {v0 v1 v2 v4 : Value} : pz_R dA d 23 85 [v0, v1, v2, .null, v4] st f Q = pz_R dA d 23 86 [v0, v1, v2, .null, v4] (.null :: st) f Q := pz_go (pz_so d23_85 rfl)
theorem d23_86 : decode (pz_b 23) 86 = .ok (.aload_n 0, 1) := by decide +kernel
theorem q23_86 {dA : Nat → ClassId} {d : Nat} {st : List Value} {f : pz_F} {Q : Option Value → pz_F → Prop} {v1 v2 v3 v4 : Value} {x : Nat} : pz_R dA d 23 86 [.ref x, v1, v2, v3, v4] st f Q = pz_R dA d 23 87 [.ref x, v1, v2, v3, v4] (.ref x :: st) f Q := pz_go (pz_so d23_86 rfl)
theorem d23_87 : decode (pz_b 23) 87 = .ok (.getfield 7, 3) := by decide +kernel
theorem q23_87 {dA : Nat → ClassId} {d : Nat} {st : List Value} {f : pz_F} {Q : Option Value → pz_F → Prop} {v0 v1 v2 v3 v4 : Value} {a : Nat} : pz_R dA d 23 87 [v0, v1, v2, v3, v4] (.ref a :: st) f Q = pz_o (pz_gf f a 0 0) (fun v => pz_R dA d 23 90 [v0, v1, v2, v3, v4] (v :: st) f Q) := pz_gg d23_87 rfl
theorem d23_90 : decode (pz_b 23) 90 = .ok (.bipush 20, 2) := by decide +kernel
theorem q23_90 {dA : Nat → ClassId} {d : Nat} {st : List Value} {f : pz_F} {Q : Option Value → pz_F → Prop} {v0 v1 v2 v3 v4 : Value} : pz_R dA d 23 90 [v0, v1, v2, v3, v4] st f Q = pz_R dA d 23 92 [v0, v1, v2, v3, v4] (.int 20 :: st) f Q := pz_go (pz_so d23_90 rfl)
theorem d23_92 : decode (pz_b 23) 92 = .ok (.iadd, 1) := by decide +kernel
theorem q23_92 {dA : Nat → ClassId} {d : Nat} {st : List Value} {f : pz_F} {Q : Option Value → pz_F → Prop} {v0 v1 v2 v3 v4 : Value} {x y : Int32} : pz_R dA d 23 92 [v0, v1, v2, v3, v4] (.int y :: .int x :: st) f Q = pz_R dA d 23 93 [v0, v1, v2, v3, v4] (.int (x + y) :: st) f Q := pz_go (pz_so d23_92 rfl)
theorem d23_93 : decode (pz_b 23) 93 = .ok (.putfield 198, 3) := by decide +kernel
theorem q23_93 {dA : Nat → ClassId} {d : Nat} {st : List Value} {f : pz_F} {Q : Option Value → pz_F → Prop} {v0 v1 v2 v3 v4 : Value} {x : Int32} {a : Nat} : pz_R dA d 23 93 [v0, v1, v2, v3, v4] (.int x :: .ref a :: st) f Q = pz_o (pz_pf f a 5 11 (.int x)) (fun f' => pz_R dA d 23 96 [v0, v1, v2, v3, v4] st f' Q) := pz_gp d23_93 rfl rfl rfl rfl
theorem d23_96 : decode (pz_b 23) 96 = .ok (.aload_n 3, 1) := by decide +kernel
theorem q23_96 {dA : Nat → ClassId} {d : Nat} {st : List Value} {f : pz_F} {Q : Option Value → pz_F → Prop} {v0 v1 v2 v4 : Value} {x : Nat} : pz_R dA d 23 96 [v0, v1, v2, .ref x, v4] st f Q = pz_R dA d 23 97 [v0, v1, v2, .ref x, v4] (.ref x :: st) f Q := pz_go (pz_so d23_96 rfl)
theorem q23_96n {dA : Nat → ClassId} {d : Nat} {st : List Value} {f : pz_F} {Q : Option Value → pz_F → Prop} {v0 v1 v2 v4 : Value} : pz_R dA d 23 96 [v0, v1, v2, .null, v4] st f Q = pz_R dA d 23 97 [v0, v1, v2, .null, v4] (.null :: st) f Q := pz_go (pz_so d23_96 rfl)
theorem d23_97 : decode (pz_b 23) 97 = .ok (.aload_n 1, 1) := by decide +kernel
theorem q23_97 {dA : Nat → ClassId} {d : Nat} {st : List Value} {f : pz_F} {Q : Option Value → pz_F → Prop} {v0 v2 v3 v4 : Value} {x : Nat} : pz_R dA d 23 97 [v0, .ref x, v2, v3, v4] st f Q = pz_R dA d 23 98 [v0, .ref x, v2, v3, v4] (.ref x :: st) f Q := pz_go (pz_so d23_97 rfl)
theorem q23_97n {dA : Nat → ClassId} {d : Nat} {st : List Value} {f : pz_F} {Q : Option Value → pz_F → Prop} {v0 v2 v3 v4 : Value} : pz_R dA d 23 97 [v0, .null, v2, v3, v4] st f Q = pz_R dA d 23 98 [v0, .null, v2, v3, v4] (.null :: st) f Q := pz_go (pz_so d23_97 rfl)
theorem d23_98 : decode (pz_b 23) 98 = .ok (.getfield 201, 3) := by decide +kernel
theorem q23_98 {dA : Nat → ClassId} {d : Nat} {st : List Value} {f : pz_F} {Q : Option Value → pz_F → Prop} {v0 v1 v2 v3 v4 : Value} {a : Nat} : pz_R dA d 23 98 [v0, v1, v2, v3, v4] (.ref a :: st) f Q = pz_o (pz_gf f a 1 5) (fun v => pz_R dA d 23 101 [v0, v1, v2, v3, v4] (v :: st) f Q) := pz_gg d23_98 rfl
theorem d23_101 : decode (pz_b 23) 101 = .ok (.putfield 204, 3) := by decide +kernel
theorem q23_101 {dA : Nat → ClassId} {d : Nat} {st : List Value} {f : pz_F} {Q : Option Value → pz_F → Prop} {v0 v1 v2 v3 v4 : Value} {x : Int32} {a : Nat} : pz_R dA d 23 101 [v0, v1, v2, v3, v4] (.int x :: .ref a :: st) f Q = pz_o (pz_pf f a 5 12 (.int x)) (fun f' => pz_R dA d 23 104 [v0, v1, v2, v3, v4] st f' Q) := pz_gp d23_101 rfl rfl rfl rfl
theorem d23_104 : decode (pz_b 23) 104 = .ok (.return_, 1) := by decide +kernel
theorem q23_104 {dA : Nat → ClassId} {d : Nat} {f : pz_F} {Q : Option Value → pz_F → Prop} {v0 v1 v2 v3 v4 : Value} : pz_R dA d 23 104 [v0, v1, v2, v3, v4] [] f Q = Q none f := pz_gr (pz_so d23_104 rfl)
/-! P_sendDemand (LLeasePair$Server;)V -/
theorem e24 {dA : Nat → ClassId} {d : Nat} {f : pz_F} {Q : Option Value → pz_F → Prop} {a0 : Nat} {a1 : Nat} : pz_C dA d 24 [.ref a0, .ref a1] f Q = pz_R dA d 24 0 [.ref a0, .ref a1, .retAddr 0] [] f Q := rfl
theorem d24_0 : decode (pz_b 24) 0 = .ok (.aload_n 0, 1) := by decide +kernel
theorem q24_0 {dA : Nat → ClassId} {d : Nat} {st : List Value} {f : pz_F} {Q : Option Value → pz_F → Prop} {v1 v2 : Value} {x : Nat} : pz_R dA d 24 0 [.ref x, v1, v2] st f Q = pz_R dA d 24 1 [.ref x, v1, v2] (.ref x :: st) f Q := pz_go (pz_so d24_0 rfl)
theorem d24_1 : decode (pz_b 24) 1 = .ok (.getfield 36, 3) := by decide +kernel
theorem q24_1 {dA : Nat → ClassId} {d : Nat} {st : List Value} {f : pz_F} {Q : Option Value → pz_F → Prop} {v0 v1 v2 : Value} {a : Nat} : pz_R dA d 24 1 [v0, v1, v2] (.ref a :: st) f Q = pz_o (pz_gf f a 0 4) (fun v => pz_R dA d 24 4 [v0, v1, v2] (v :: st) f Q) := pz_gg d24_1 rfl
theorem d24_4 : decode (pz_b 24) 4 = .ok (.bipush 6, 2) := by decide +kernel
theorem q24_4 {dA : Nat → ClassId} {d : Nat} {st : List Value} {f : pz_F} {Q : Option Value → pz_F → Prop} {v0 v1 v2 : Value} : pz_R dA d 24 4 [v0, v1, v2] st f Q = pz_R dA d 24 6 [v0, v1, v2] (.int 6 :: st) f Q := pz_go (pz_so d24_4 rfl)
theorem d24_6 : decode (pz_b 24) 6 = .ok (.aload_n 1, 1) := by decide +kernel
theorem q24_6 {dA : Nat → ClassId} {d : Nat} {st : List Value} {f : pz_F} {Q : Option Value → pz_F → Prop} {v0 v2 : Value} {x : Nat} : pz_R dA d 24 6 [v0, .ref x, v2] st f Q = pz_R dA d 24 7 [v0, .ref x, v2] (.ref x :: st) f Q := pz_go (pz_so d24_6 rfl)
theorem q24_6n {dA : Nat → ClassId} {d : Nat} {st : List Value} {f : pz_F} {Q : Option Value → pz_F → Prop} {v0 v2 : Value} : pz_R dA d 24 6 [v0, .null, v2] st f Q = pz_R dA d 24 7 [v0, .null, v2] (.null :: st) f Q := pz_go (pz_so d24_6 rfl)
theorem d24_7 : decode (pz_b 24) 7 = .ok (.getfield 140, 3) := by decide +kernel
theorem q24_7 {dA : Nat → ClassId} {d : Nat} {st : List Value} {f : pz_F} {Q : Option Value → pz_F → Prop} {v0 v1 v2 : Value} {a : Nat} : pz_R dA d 24 7 [v0, v1, v2] (.ref a :: st) f Q = pz_o (pz_gf f a 1 0) (fun v => pz_R dA d 24 10 [v0, v1, v2] (v :: st) f Q) := pz_gg d24_7 rfl
theorem d24_10 : decode (pz_b 24) 10 = .ok (.iconst 1, 1) := by decide +kernel
theorem q24_10 {dA : Nat → ClassId} {d : Nat} {st : List Value} {f : pz_F} {Q : Option Value → pz_F → Prop} {v0 v1 v2 : Value} : pz_R dA d 24 10 [v0, v1, v2] st f Q = pz_R dA d 24 11 [v0, v1, v2] (.int 1 :: st) f Q := pz_go (pz_so d24_10 rfl)
theorem d24_11 : decode (pz_b 24) 11 = .ok (.aload_n 1, 1) := by decide +kernel
theorem q24_11 {dA : Nat → ClassId} {d : Nat} {st : List Value} {f : pz_F} {Q : Option Value → pz_F → Prop} {v0 v2 : Value} {x : Nat} : pz_R dA d 24 11 [v0, .ref x, v2] st f Q = pz_R dA d 24 12 [v0, .ref x, v2] (.ref x :: st) f Q := pz_go (pz_so d24_11 rfl)
theorem q24_11n {dA : Nat → ClassId} {d : Nat} {st : List Value} {f : pz_F} {Q : Option Value → pz_F → Prop} {v0 v2 : Value} : pz_R dA d 24 11 [v0, .null, v2] st f Q = pz_R dA d 24 12 [v0, .null, v2] (.null :: st) f Q := pz_go (pz_so d24_11 rfl)
theorem d24_12 : decode (pz_b 24) 12 = .ok (.getfield 140, 3) := by decide +kernel
theorem q24_12 {dA : Nat → ClassId} {d : Nat} {st : List Value} {f : pz_F} {Q : Option Value → pz_F → Prop} {v0 v1 v2 : Value} {a : Nat} : pz_R dA d 24 12 [v0, v1, v2] (.ref a :: st) f Q = pz_o (pz_gf f a 1 0) (fun v => pz_R dA d 24 15 [v0, v1, v2] (v :: st) f Q) := pz_gg d24_12 rfl
theorem d24_15 : decode (pz_b 24) 15 = .ok (.isub, 1) := by decide +kernel
theorem q24_15 {dA : Nat → ClassId} {d : Nat} {st : List Value} {f : pz_F} {Q : Option Value → pz_F → Prop} {v0 v1 v2 : Value} {x y : Int32} : pz_R dA d 24 15 [v0, v1, v2] (.int y :: .int x :: st) f Q = pz_R dA d 24 16 [v0, v1, v2] (.int (x - y) :: st) f Q := pz_go (pz_so d24_15 rfl)
theorem d24_16 : decode (pz_b 24) 16 = .ok (.aload_n 0, 1) := by decide +kernel
theorem q24_16 {dA : Nat → ClassId} {d : Nat} {st : List Value} {f : pz_F} {Q : Option Value → pz_F → Prop} {v1 v2 : Value} {x : Nat} : pz_R dA d 24 16 [.ref x, v1, v2] st f Q = pz_R dA d 24 17 [.ref x, v1, v2] (.ref x :: st) f Q := pz_go (pz_so d24_16 rfl)
theorem d24_17 : decode (pz_b 24) 17 = .ok (.getfield 7, 3) := by decide +kernel
theorem q24_17 {dA : Nat → ClassId} {d : Nat} {st : List Value} {f : pz_F} {Q : Option Value → pz_F → Prop} {v0 v1 v2 : Value} {a : Nat} : pz_R dA d 24 17 [v0, v1, v2] (.ref a :: st) f Q = pz_o (pz_gf f a 0 0) (fun v => pz_R dA d 24 20 [v0, v1, v2] (v :: st) f Q) := pz_gg d24_17 rfl
theorem d24_20 : decode (pz_b 24) 20 = .ok (.invokevirtual 76, 3) := by decide +kernel
theorem q24_20 {dA : Nat → ClassId} {d : Nat} {st : List Value} {f : pz_F} {Q : Option Value → pz_F → Prop} {v0 v1 v2 : Value} {c0 : Int32} {c1 : Int32} {c2 : Int32} {c3 : Int32} {b : Nat} (hr : st.length ≤ 4) : pz_R dA (d + 1) 24 20 [v0, v1, v2] (.int c3 :: .int c2 :: .int c1 :: .int c0 :: .ref b :: st) f Q = pz_o (pz_gu f b 4) (fun _ => pz_C dA d 74 [.ref b, .int c0, .int c1, .int c2, .int c3] f (fun r f' => pz_R dA (d + 1) 24 23 [v0, v1, v2] (r.toList ++ st) f' Q)) := pz_gcv (As := [.int c0, .int c1, .int c2, .int c3]) d24_20 rfl rfl rfl hr
theorem d24_23 : decode (pz_b 24) 23 = .ok (.astore_n 2, 1) := by decide +kernel
theorem q24_23 {dA : Nat → ClassId} {d : Nat} {st : List Value} {f : pz_F} {Q : Option Value → pz_F → Prop} {v0 v1 v2 : Value} {x : Nat} : pz_R dA d 24 23 [v0, v1, v2] (.ref x :: st) f Q = pz_R dA d 24 24 [v0, v1, .ref x] st f Q := pz_go (pz_so d24_23 rfl)
theorem q24_23n {dA : Nat → ClassId} {d : Nat} {st : List Value} {f : pz_F} {Q : Option Value → pz_F → Prop} {v0 v1 v2 : Value} : pz_R dA d 24 23 [v0, v1, v2] (.null :: st) f Q = pz_R dA d 24 24 [v0, v1, .null] st f Q := pz_go (pz_so d24_23 rfl)
theorem d24_24 : decode (pz_b 24) 24 = .ok (.aload_n 2, 1) := by decide +kernel
theorem q24_24 {dA : Nat → ClassId} {d : Nat} {st : List Value} {f : pz_F} {Q : Option Value → pz_F → Prop} {v0 v1 : Value} {x : Nat} : pz_R dA d 24 24 [v0, v1, .ref x] st f Q = pz_R dA d 24 25 [v0, v1, .ref x] (.ref x :: st) f Q := pz_go (pz_so d24_24 rfl)
theorem q24_24n {dA : Nat → ClassId} {d : Nat} {st : List Value} {f : pz_F} {Q : Option Value → pz_F → Prop} {v0 v1 : Value} : pz_R dA d 24 24 [v0, v1, .null] st f Q = pz_R dA d 24 25 [v0, v1, .null] (.null :: st) f Q := pz_go (pz_so d24_24 rfl)
theorem d24_25 : decode (pz_b 24) 25 = .ok (.ifnull 24, 3) := by decide +kernel
theorem q24_25 {dA : Nat → ClassId} {d : Nat} {st : List Value} {f : pz_F} {Q : Option Value → pz_F → Prop} {v0 v1 v2 : Value} {x : Nat} : pz_R dA d 24 25 [v0, v1, v2] (.ref x :: st) f Q = pz_R dA d 24 28 [v0, v1, v2] st f Q := pz_go (pz_so d24_25 rfl)
theorem q24_25n {dA : Nat → ClassId} {d : Nat} {st : List Value} {f : pz_F} {Q : Option Value → pz_F → Prop} {v0 v1 v2 : Value} : pz_R dA d 24 25 [v0, v1, v2] (.null :: st) f Q = pz_R dA d 24 49 [v0, v1, v2] st f Q := pz_go (pz_so d24_25 rfl)
theorem d24_28 : decode (pz_b 24) 28 = .ok (.aload_n 2, 1) := by decide +kernel
theorem q24_28 {dA : Nat → ClassId} {d : Nat} {st : List Value} {f : pz_F} {Q : Option Value → pz_F → Prop} {v0 v1 : Value} {x : Nat} : pz_R dA d 24 28 [v0, v1, .ref x] st f Q = pz_R dA d 24 29 [v0, v1, .ref x] (.ref x :: st) f Q := pz_go (pz_so d24_28 rfl)
theorem q24_28n {dA : Nat → ClassId} {d : Nat} {st : List Value} {f : pz_F} {Q : Option Value → pz_F → Prop} {v0 v1 : Value} : pz_R dA d 24 28 [v0, v1, .null] st f Q = pz_R dA d 24 29 [v0, v1, .null] (.null :: st) f Q := pz_go (pz_so d24_28 rfl)
theorem d24_29 : decode (pz_b 24) 29 = .ok (.bipush 63, 2) := by decide +kernel
theorem q24_29 {dA : Nat → ClassId} {d : Nat} {st : List Value} {f : pz_F} {Q : Option Value → pz_F → Prop} {v0 v1 v2 : Value} : pz_R dA d 24 29 [v0, v1, v2] st f Q = pz_R dA d 24 31 [v0, v1, v2] (.int 63 :: st) f Q := pz_go (pz_so d24_29 rfl)
theorem d24_31 : decode (pz_b 24) 31 = .ok (.aload_n 1, 1) := by decide +kernel
theorem q24_31 {dA : Nat → ClassId} {d : Nat} {st : List Value} {f : pz_F} {Q : Option Value → pz_F → Prop} {v0 v2 : Value} {x : Nat} : pz_R dA d 24 31 [v0, .ref x, v2] st f Q = pz_R dA d 24 32 [v0, .ref x, v2] (.ref x :: st) f Q := pz_go (pz_so d24_31 rfl)
theorem q24_31n {dA : Nat → ClassId} {d : Nat} {st : List Value} {f : pz_F} {Q : Option Value → pz_F → Prop} {v0 v2 : Value} : pz_R dA d 24 31 [v0, .null, v2] st f Q = pz_R dA d 24 32 [v0, .null, v2] (.null :: st) f Q := pz_go (pz_so d24_31 rfl)
theorem d24_32 : decode (pz_b 24) 32 = .ok (.getfield 163, 3) := by decide +kernel
theorem q24_32 {dA : Nat → ClassId} {d : Nat} {st : List Value} {f : pz_F} {Q : Option Value → pz_F → Prop} {v0 v1 v2 : Value} {a : Nat} : pz_R dA d 24 32 [v0, v1, v2] (.ref a :: st) f Q = pz_o (pz_gf f a 1 6) (fun v => pz_R dA d 24 35 [v0, v1, v2] (v :: st) f Q) := pz_gg d24_32 rfl
theorem d24_35 : decode (pz_b 24) 35 = .ok (.iconst (-1), 1) := by decide +kernel
theorem q24_35 {dA : Nat → ClassId} {d : Nat} {st : List Value} {f : pz_F} {Q : Option Value → pz_F → Prop} {v0 v1 v2 : Value} : pz_R dA d 24 35 [v0, v1, v2] st f Q = pz_R dA d 24 36 [v0, v1, v2] (.int (-1) :: st) f Q := pz_go (pz_so d24_35 rfl)
theorem d24_36 : decode (pz_b 24) 36 = .ok (.ixor, 1) := by decide +kernel
theorem q24_36 {dA : Nat → ClassId} {d : Nat} {st : List Value} {f : pz_F} {Q : Option Value → pz_F → Prop} {v0 v1 v2 : Value} {x y : Int32} : pz_R dA d 24 36 [v0, v1, v2] (.int y :: .int x :: st) f Q = pz_R dA d 24 37 [v0, v1, v2] (.int (x ^^^ y) :: st) f Q := pz_go (pz_so d24_36 rfl)
theorem d24_37 : decode (pz_b 24) 37 = .ok (.iand, 1) := by decide +kernel
theorem q24_37 {dA : Nat → ClassId} {d : Nat} {st : List Value} {f : pz_F} {Q : Option Value → pz_F → Prop} {v0 v1 v2 : Value} {x y : Int32} : pz_R dA d 24 37 [v0, v1, v2] (.int y :: .int x :: st) f Q = pz_R dA d 24 38 [v0, v1, v2] (.int (x &&& y) :: st) f Q := pz_go (pz_so d24_37 rfl)
theorem d24_38 : decode (pz_b 24) 38 = .ok (.putfield 207, 3) := by decide +kernel
theorem q24_38 {dA : Nat → ClassId} {d : Nat} {st : List Value} {f : pz_F} {Q : Option Value → pz_F → Prop} {v0 v1 v2 : Value} {x : Int32} {a : Nat} : pz_R dA d 24 38 [v0, v1, v2] (.int x :: .ref a :: st) f Q = pz_o (pz_pf f a 5 13 (.int x)) (fun f' => pz_R dA d 24 41 [v0, v1, v2] st f' Q) := pz_gp d24_38 rfl rfl rfl rfl
theorem d24_41 : decode (pz_b 24) 41 = .ok (.aload_n 2, 1) := by decide +kernel
theorem q24_41 {dA : Nat → ClassId} {d : Nat} {st : List Value} {f : pz_F} {Q : Option Value → pz_F → Prop} {v0 v1 : Value} {x : Nat} : pz_R dA d 24 41 [v0, v1, .ref x] st f Q = pz_R dA d 24 42 [v0, v1, .ref x] (.ref x :: st) f Q := pz_go (pz_so d24_41 rfl)
theorem q24_41n {dA : Nat → ClassId} {d : Nat} {st : List Value} {f : pz_F} {Q : Option Value → pz_F → Prop} {v0 v1 : Value} : pz_R dA d 24 41 [v0, v1, .null] st f Q = pz_R dA d 24 42 [v0, v1, .null] (.null :: st) f Q := pz_go (pz_so d24_41 rfl)
theorem d24_42 : decode (pz_b 24) 42 = .ok (.aload_n 1, 1) := by decide +kernel
theorem q24_42 {dA : Nat → ClassId} {d : Nat} {st : List Value} {f : pz_F} {Q : Option Value → pz_F → Prop} {v0 v2 : Value} {x : Nat} : pz_R dA d 24 42 [v0, .ref x, v2] st f Q = pz_R dA d 24 43 [v0, .ref x, v2] (.ref x :: st) f Q := pz_go (pz_so d24_42 rfl)
theorem q24_42n {dA : Nat → ClassId} {d : Nat} {st : List Value} {f : pz_F} {Q : Option Value → pz_F → Prop} {v0 v2 : Value} : pz_R dA d 24 42 [v0, .null, v2] st f Q = pz_R dA d 24 43 [v0, .null, v2] (.null :: st) f Q := pz_go (pz_so d24_42 rfl)
theorem d24_43 : decode (pz_b 24) 43 = .ok (.getfield 210, 3) := by decide +kernel
theorem q24_43 {dA : Nat → ClassId} {d : Nat} {st : List Value} {f : pz_F} {Q : Option Value → pz_F → Prop} {v0 v1 v2 : Value} {a : Nat} : pz_R dA d 24 43 [v0, v1, v2] (.ref a :: st) f Q = pz_o (pz_gf f a 1 4) (fun v => pz_R dA d 24 46 [v0, v1, v2] (v :: st) f Q) := pz_gg d24_43 rfl
theorem d24_46 : decode (pz_b 24) 46 = .ok (.putfield 204, 3) := by decide +kernel
theorem q24_46 {dA : Nat → ClassId} {d : Nat} {st : List Value} {f : pz_F} {Q : Option Value → pz_F → Prop} {v0 v1 v2 : Value} {x : Int32} {a : Nat} : pz_R dA d 24 46 [v0, v1, v2] (.int x :: .ref a :: st) f Q = pz_o (pz_pf f a 5 12 (.int x)) (fun f' => pz_R dA d 24 49 [v0, v1, v2] st f' Q) := pz_gp d24_46 rfl rfl rfl rfl
theorem d24_49 : decode (pz_b 24) 49 = .ok (.return_, 1) := by decide +kernel
theorem q24_49 {dA : Nat → ClassId} {d : Nat} {f : pz_F} {Q : Option Value → pz_F → Prop} {v0 v1 v2 : Value} : pz_R dA d 24 49 [v0, v1, v2] [] f Q = Q none f := pz_gr (pz_so d24_49 rfl)
/-! P_sendWithTicket (IIII)V -/
theorem e25 {dA : Nat → ClassId} {d : Nat} {f : pz_F} {Q : Option Value → pz_F → Prop} {a0 : Nat} {a1 : Int32} {a2 : Int32} {a3 : Int32} {a4 : Int32} : pz_C dA d 25 [.ref a0, .int a1, .int a2, .int a3, .int a4] f Q = pz_R dA d 25 0 [.ref a0, .int a1, .int a2, .int a3, .int a4, .retAddr 0] [] f Q := rfl
theorem d25_0 : decode (pz_b 25) 0 = .ok (.aload_n 0, 1) := by decide +kernel
theorem q25_0 {dA : Nat → ClassId} {d : Nat} {st : List Value} {f : pz_F} {Q : Option Value → pz_F → Prop} {v1 v2 v3 v4 v5 : Value} {x : Nat} : pz_R dA d 25 0 [.ref x, v1, v2, v3, v4, v5] st f Q = pz_R dA d 25 1 [.ref x, v1, v2, v3, v4, v5] (.ref x :: st) f Q := pz_go (pz_so d25_0 rfl)
theorem d25_1 : decode (pz_b 25) 1 = .ok (.getfield 36, 3) := by decide +kernel
theorem q25_1 {dA : Nat → ClassId} {d : Nat} {st : List Value} {f : pz_F} {Q : Option Value → pz_F → Prop} {v0 v1 v2 v3 v4 v5 : Value} {a : Nat} : pz_R dA d 25 1 [v0, v1, v2, v3, v4, v5] (.ref a :: st) f Q = pz_o (pz_gf f a 0 4) (fun v => pz_R dA d 25 4 [v0, v1, v2, v3, v4, v5] (v :: st) f Q) := pz_gg d25_1 rfl
theorem d25_4 : decode (pz_b 25) 4 = .ok (.iload_n 1, 1) := by decide +kernel
theorem q25_4 {dA : Nat → ClassId} {d : Nat} {st : List Value} {f : pz_F} {Q : Option Value → pz_F → Prop} {v0 v2 v3 v4 v5 : Value} {x : Int32} : pz_R dA d 25 4 [v0, .int x, v2, v3, v4, v5] st f Q = pz_R dA d 25 5 [v0, .int x, v2, v3, v4, v5] (.int x :: st) f Q := pz_go (pz_so d25_4 rfl)
theorem d25_5 : decode (pz_b 25) 5 = .ok (.iload_n 2, 1) := by decide +kernel
theorem q25_5 {dA : Nat → ClassId} {d : Nat} {st : List Value} {f : pz_F} {Q : Option Value → pz_F → Prop} {v0 v1 v3 v4 v5 : Value} {x : Int32} : pz_R dA d 25 5 [v0, v1, .int x, v3, v4, v5] st f Q = pz_R dA d 25 6 [v0, v1, .int x, v3, v4, v5] (.int x :: st) f Q := pz_go (pz_so d25_5 rfl)
theorem d25_6 : decode (pz_b 25) 6 = .ok (.iload_n 3, 1) := by decide +kernel
theorem q25_6 {dA : Nat → ClassId} {d : Nat} {st : List Value} {f : pz_F} {Q : Option Value → pz_F → Prop} {v0 v1 v2 v4 v5 : Value} {x : Int32} : pz_R dA d 25 6 [v0, v1, v2, .int x, v4, v5] st f Q = pz_R dA d 25 7 [v0, v1, v2, .int x, v4, v5] (.int x :: st) f Q := pz_go (pz_so d25_6 rfl)
theorem d25_7 : decode (pz_b 25) 7 = .ok (.aload_n 0, 1) := by decide +kernel
theorem q25_7 {dA : Nat → ClassId} {d : Nat} {st : List Value} {f : pz_F} {Q : Option Value → pz_F → Prop} {v1 v2 v3 v4 v5 : Value} {x : Nat} : pz_R dA d 25 7 [.ref x, v1, v2, v3, v4, v5] st f Q = pz_R dA d 25 8 [.ref x, v1, v2, v3, v4, v5] (.ref x :: st) f Q := pz_go (pz_so d25_7 rfl)
theorem d25_8 : decode (pz_b 25) 8 = .ok (.getfield 7, 3) := by decide +kernel
theorem q25_8 {dA : Nat → ClassId} {d : Nat} {st : List Value} {f : pz_F} {Q : Option Value → pz_F → Prop} {v0 v1 v2 v3 v4 v5 : Value} {a : Nat} : pz_R dA d 25 8 [v0, v1, v2, v3, v4, v5] (.ref a :: st) f Q = pz_o (pz_gf f a 0 0) (fun v => pz_R dA d 25 11 [v0, v1, v2, v3, v4, v5] (v :: st) f Q) := pz_gg d25_8 rfl
theorem d25_11 : decode (pz_b 25) 11 = .ok (.invokevirtual 76, 3) := by decide +kernel
theorem q25_11 {dA : Nat → ClassId} {d : Nat} {st : List Value} {f : pz_F} {Q : Option Value → pz_F → Prop} {v0 v1 v2 v3 v4 v5 : Value} {c0 : Int32} {c1 : Int32} {c2 : Int32} {c3 : Int32} {b : Nat} (hr : st.length ≤ 4) : pz_R dA (d + 1) 25 11 [v0, v1, v2, v3, v4, v5] (.int c3 :: .int c2 :: .int c1 :: .int c0 :: .ref b :: st) f Q = pz_o (pz_gu f b 4) (fun _ => pz_C dA d 74 [.ref b, .int c0, .int c1, .int c2, .int c3] f (fun r f' => pz_R dA (d + 1) 25 14 [v0, v1, v2, v3, v4, v5] (r.toList ++ st) f' Q)) := pz_gcv (As := [.int c0, .int c1, .int c2, .int c3]) d25_11 rfl rfl rfl hr
theorem d25_14 : decode (pz_b 25) 14 = .ok (.astore 5, 2) := by decide +kernel
theorem q25_14 {dA : Nat → ClassId} {d : Nat} {st : List Value} {f : pz_F} {Q : Option Value → pz_F → Prop} {v0 v1 v2 v3 v4 v5 : Value} {x : Nat} : pz_R dA d 25 14 [v0, v1, v2, v3, v4, v5] (.ref x :: st) f Q = pz_R dA d 25 16 [v0, v1, v2, v3, v4, .ref x] st f Q := pz_go (pz_so d25_14 rfl)
theorem q25_14n {dA : Nat → ClassId} {d : Nat} {st : List Value} {f : pz_F} {Q : Option Value → pz_F → Prop} {v0 v1 v2 v3 v4 v5 : Value} : pz_R dA d 25 14 [v0, v1, v2, v3, v4, v5] (.null :: st) f Q = pz_R dA d 25 16 [v0, v1, v2, v3, v4, .null] st f Q := pz_go (pz_so d25_14 rfl)
theorem d25_16 : decode (pz_b 25) 16 = .ok (.aload 5, 2) := by decide +kernel
theorem q25_16 {dA : Nat → ClassId} {d : Nat} {st : List Value} {f : pz_F} {Q : Option Value → pz_F → Prop} {v0 v1 v2 v3 v4 : Value} {x : Nat} : pz_R dA d 25 16 [v0, v1, v2, v3, v4, .ref x] st f Q = pz_R dA d 25 18 [v0, v1, v2, v3, v4, .ref x] (.ref x :: st) f Q := pz_go (pz_so d25_16 rfl)
theorem q25_16n {dA : Nat → ClassId} {d : Nat} {st : List Value} {f : pz_F} {Q : Option Value → pz_F → Prop} {v0 v1 v2 v3 v4 : Value} : pz_R dA d 25 16 [v0, v1, v2, v3, v4, .null] st f Q = pz_R dA d 25 18 [v0, v1, v2, v3, v4, .null] (.null :: st) f Q := pz_go (pz_so d25_16 rfl)
theorem d25_18 : decode (pz_b 25) 18 = .ok (.ifnull 10, 3) := by decide +kernel
theorem q25_18 {dA : Nat → ClassId} {d : Nat} {st : List Value} {f : pz_F} {Q : Option Value → pz_F → Prop} {v0 v1 v2 v3 v4 v5 : Value} {x : Nat} : pz_R dA d 25 18 [v0, v1, v2, v3, v4, v5] (.ref x :: st) f Q = pz_R dA d 25 21 [v0, v1, v2, v3, v4, v5] st f Q := pz_go (pz_so d25_18 rfl)
theorem q25_18n {dA : Nat → ClassId} {d : Nat} {st : List Value} {f : pz_F} {Q : Option Value → pz_F → Prop} {v0 v1 v2 v3 v4 v5 : Value} : pz_R dA d 25 18 [v0, v1, v2, v3, v4, v5] (.null :: st) f Q = pz_R dA d 25 28 [v0, v1, v2, v3, v4, v5] st f Q := pz_go (pz_so d25_18 rfl)
theorem d25_21 : decode (pz_b 25) 21 = .ok (.aload 5, 2) := by decide +kernel
theorem q25_21 {dA : Nat → ClassId} {d : Nat} {st : List Value} {f : pz_F} {Q : Option Value → pz_F → Prop} {v0 v1 v2 v3 v4 : Value} {x : Nat} : pz_R dA d 25 21 [v0, v1, v2, v3, v4, .ref x] st f Q = pz_R dA d 25 23 [v0, v1, v2, v3, v4, .ref x] (.ref x :: st) f Q := pz_go (pz_so d25_21 rfl)
theorem q25_21n {dA : Nat → ClassId} {d : Nat} {st : List Value} {f : pz_F} {Q : Option Value → pz_F → Prop} {v0 v1 v2 v3 v4 : Value} : pz_R dA d 25 21 [v0, v1, v2, v3, v4, .null] st f Q = pz_R dA d 25 23 [v0, v1, v2, v3, v4, .null] (.null :: st) f Q := pz_go (pz_so d25_21 rfl)
theorem d25_23 : decode (pz_b 25) 23 = .ok (.iload 4, 2) := by decide +kernel
theorem q25_23 {dA : Nat → ClassId} {d : Nat} {st : List Value} {f : pz_F} {Q : Option Value → pz_F → Prop} {v0 v1 v2 v3 v5 : Value} {x : Int32} : pz_R dA d 25 23 [v0, v1, v2, v3, .int x, v5] st f Q = pz_R dA d 25 25 [v0, v1, v2, v3, .int x, v5] (.int x :: st) f Q := pz_go (pz_so d25_23 rfl)
theorem d25_25 : decode (pz_b 25) 25 = .ok (.putfield 211, 3) := by decide +kernel
theorem q25_25 {dA : Nat → ClassId} {d : Nat} {st : List Value} {f : pz_F} {Q : Option Value → pz_F → Prop} {v0 v1 v2 v3 v4 v5 : Value} {x : Int32} {a : Nat} : pz_R dA d 25 25 [v0, v1, v2, v3, v4, v5] (.int x :: .ref a :: st) f Q = pz_o (pz_pf f a 5 4 (.int x)) (fun f' => pz_R dA d 25 28 [v0, v1, v2, v3, v4, v5] st f' Q) := pz_gp d25_25 rfl rfl rfl rfl
theorem d25_28 : decode (pz_b 25) 28 = .ok (.return_, 1) := by decide +kernel
theorem q25_28 {dA : Nat → ClassId} {d : Nat} {f : pz_F} {Q : Option Value → pz_F → Prop} {v0 v1 v2 v3 v4 v5 : Value} : pz_R dA d 25 28 [v0, v1, v2, v3, v4, v5] [] f Q = Q none f := pz_gr (pz_so d25_28 rfl)
/-! P_sendLease (LLeasePair$Message;II)V -/
theorem e26 {dA : Nat → ClassId} {d : Nat} {f : pz_F} {Q : Option Value → pz_F → Prop} {a0 : Nat} {a1 : Nat} {a2 : Int32} {a3 : Int32} : pz_C dA d 26 [.ref a0, .ref a1, .int a2, .int a3] f Q = pz_R dA d 26 0 [.ref a0, .ref a1, .int a2, .int a3, .retAddr 0] [] f Q := rfl
theorem d26_0 : decode (pz_b 26) 0 = .ok (.aload_n 0, 1) := by decide +kernel
theorem q26_0 {dA : Nat → ClassId} {d : Nat} {st : List Value} {f : pz_F} {Q : Option Value → pz_F → Prop} {v1 v2 v3 v4 : Value} {x : Nat} : pz_R dA d 26 0 [.ref x, v1, v2, v3, v4] st f Q = pz_R dA d 26 1 [.ref x, v1, v2, v3, v4] (.ref x :: st) f Q := pz_go (pz_so d26_0 rfl)
theorem d26_1 : decode (pz_b 26) 1 = .ok (.getfield 36, 3) := by decide +kernel
theorem q26_1 {dA : Nat → ClassId} {d : Nat} {st : List Value} {f : pz_F} {Q : Option Value → pz_F → Prop} {v0 v1 v2 v3 v4 : Value} {a : Nat} : pz_R dA d 26 1 [v0, v1, v2, v3, v4] (.ref a :: st) f Q = pz_o (pz_gf f a 0 4) (fun v => pz_R dA d 26 4 [v0, v1, v2, v3, v4] (v :: st) f Q) := pz_gg d26_1 rfl
theorem d26_4 : decode (pz_b 26) 4 = .ok (.iconst 1, 1) := by decide +kernel
theorem q26_4 {dA : Nat → ClassId} {d : Nat} {st : List Value} {f : pz_F} {Q : Option Value → pz_F → Prop} {v0 v1 v2 v3 v4 : Value} : pz_R dA d 26 4 [v0, v1, v2, v3, v4] st f Q = pz_R dA d 26 5 [v0, v1, v2, v3, v4] (.int 1 :: st) f Q := pz_go (pz_so d26_4 rfl)
theorem d26_5 : decode (pz_b 26) 5 = .ok (.aload_n 1, 1) := by decide +kernel
theorem q26_5 {dA : Nat → ClassId} {d : Nat} {st : List Value} {f : pz_F} {Q : Option Value → pz_F → Prop} {v0 v2 v3 v4 : Value} {x : Nat} : pz_R dA d 26 5 [v0, .ref x, v2, v3, v4] st f Q = pz_R dA d 26 6 [v0, .ref x, v2, v3, v4] (.ref x :: st) f Q := pz_go (pz_so d26_5 rfl)
theorem q26_5n {dA : Nat → ClassId} {d : Nat} {st : List Value} {f : pz_F} {Q : Option Value → pz_F → Prop} {v0 v2 v3 v4 : Value} : pz_R dA d 26 5 [v0, .null, v2, v3, v4] st f Q = pz_R dA d 26 6 [v0, .null, v2, v3, v4] (.null :: st) f Q := pz_go (pz_so d26_5 rfl)
theorem d26_6 : decode (pz_b 26) 6 = .ok (.getfield 212, 3) := by decide +kernel
theorem q26_6 {dA : Nat → ClassId} {d : Nat} {st : List Value} {f : pz_F} {Q : Option Value → pz_F → Prop} {v0 v1 v2 v3 v4 : Value} {a : Nat} : pz_R dA d 26 6 [v0, v1, v2, v3, v4] (.ref a :: st) f Q = pz_o (pz_gf f a 5 2) (fun v => pz_R dA d 26 9 [v0, v1, v2, v3, v4] (v :: st) f Q) := pz_gg d26_6 rfl
theorem d26_9 : decode (pz_b 26) 9 = .ok (.aload_n 1, 1) := by decide +kernel
theorem q26_9 {dA : Nat → ClassId} {d : Nat} {st : List Value} {f : pz_F} {Q : Option Value → pz_F → Prop} {v0 v2 v3 v4 : Value} {x : Nat} : pz_R dA d 26 9 [v0, .ref x, v2, v3, v4] st f Q = pz_R dA d 26 10 [v0, .ref x, v2, v3, v4] (.ref x :: st) f Q := pz_go (pz_so d26_9 rfl)
theorem q26_9n {dA : Nat → ClassId} {d : Nat} {st : List Value} {f : pz_F} {Q : Option Value → pz_F → Prop} {v0 v2 v3 v4 : Value} : pz_R dA d 26 9 [v0, .null, v2, v3, v4] st f Q = pz_R dA d 26 10 [v0, .null, v2, v3, v4] (.null :: st) f Q := pz_go (pz_so d26_9 rfl)
theorem d26_10 : decode (pz_b 26) 10 = .ok (.getfield 215, 3) := by decide +kernel
theorem q26_10 {dA : Nat → ClassId} {d : Nat} {st : List Value} {f : pz_F} {Q : Option Value → pz_F → Prop} {v0 v1 v2 v3 v4 : Value} {a : Nat} : pz_R dA d 26 10 [v0, v1, v2, v3, v4] (.ref a :: st) f Q = pz_o (pz_gf f a 5 1) (fun v => pz_R dA d 26 13 [v0, v1, v2, v3, v4] (v :: st) f Q) := pz_gg d26_10 rfl
theorem d26_13 : decode (pz_b 26) 13 = .ok (.aload_n 0, 1) := by decide +kernel
theorem q26_13 {dA : Nat → ClassId} {d : Nat} {st : List Value} {f : pz_F} {Q : Option Value → pz_F → Prop} {v1 v2 v3 v4 : Value} {x : Nat} : pz_R dA d 26 13 [.ref x, v1, v2, v3, v4] st f Q = pz_R dA d 26 14 [.ref x, v1, v2, v3, v4] (.ref x :: st) f Q := pz_go (pz_so d26_13 rfl)
theorem d26_14 : decode (pz_b 26) 14 = .ok (.getfield 7, 3) := by decide +kernel
theorem q26_14 {dA : Nat → ClassId} {d : Nat} {st : List Value} {f : pz_F} {Q : Option Value → pz_F → Prop} {v0 v1 v2 v3 v4 : Value} {a : Nat} : pz_R dA d 26 14 [v0, v1, v2, v3, v4] (.ref a :: st) f Q = pz_o (pz_gf f a 0 0) (fun v => pz_R dA d 26 17 [v0, v1, v2, v3, v4] (v :: st) f Q) := pz_gg d26_14 rfl
theorem d26_17 : decode (pz_b 26) 17 = .ok (.invokevirtual 76, 3) := by decide +kernel
theorem q26_17 {dA : Nat → ClassId} {d : Nat} {st : List Value} {f : pz_F} {Q : Option Value → pz_F → Prop} {v0 v1 v2 v3 v4 : Value} {c0 : Int32} {c1 : Int32} {c2 : Int32} {c3 : Int32} {b : Nat} (hr : st.length ≤ 4) : pz_R dA (d + 1) 26 17 [v0, v1, v2, v3, v4] (.int c3 :: .int c2 :: .int c1 :: .int c0 :: .ref b :: st) f Q = pz_o (pz_gu f b 4) (fun _ => pz_C dA d 74 [.ref b, .int c0, .int c1, .int c2, .int c3] f (fun r f' => pz_R dA (d + 1) 26 20 [v0, v1, v2, v3, v4] (r.toList ++ st) f' Q)) := pz_gcv (As := [.int c0, .int c1, .int c2, .int c3]) d26_17 rfl rfl rfl hr
theorem d26_20 : decode (pz_b 26) 20 = .ok (.astore 4, 2) := by decide +kernel
theorem q26_20 {dA : Nat → ClassId} {d : Nat} {st : List Value} {f : pz_F} {Q : Option Value → pz_F → Prop} {v0 v1 v2 v3 v4 : Value} {x : Nat} : pz_R dA d 26 20 [v0, v1, v2, v3, v4] (.ref x :: st) f Q = pz_R dA d 26 22 [v0, v1, v2, v3, .ref x] st f Q := pz_go (pz_so d26_20 rfl)
theorem q26_20n {dA : Nat → ClassId} {d : Nat} {st : List Value} {f : pz_F} {Q : Option Value → pz_F → Prop} {v0 v1 v2 v3 v4 : Value} : pz_R dA d 26 20 [v0, v1, v2, v3, v4] (.null :: st) f Q = pz_R dA d 26 22 [v0, v1, v2, v3, .null] st f Q := pz_go (pz_so d26_20 rfl)
theorem d26_22 : decode (pz_b 26) 22 = .ok (.aload 4, 2) := by decide +kernel
theorem q26_22 {dA : Nat → ClassId} {d : Nat} {st : List Value} {f : pz_F} {Q : Option Value → pz_F → Prop} {v0 v1 v2 v3 : Value} {x : Nat} : pz_R dA d 26 22 [v0, v1, v2, v3, .ref x] st f Q = pz_R dA d 26 24 [v0, v1, v2, v3, .ref x] (.ref x :: st) f Q := pz_go (pz_so d26_22 rfl)
theorem q26_22n {dA : Nat → ClassId} {d : Nat} {st : List Value} {f : pz_F} {Q : Option Value → pz_F → Prop} {v0 v1 v2 v3 : Value} : pz_R dA d 26 22 [v0, v1, v2, v3, .null] st f Q = pz_R dA d 26 24 [v0, v1, v2, v3, .null] (.null :: st) f Q := pz_go (pz_so d26_22 rfl)
theorem d26_24 : decode (pz_b 26) 24 = .ok (.ifnull 24, 3) := by decide +kernel
theorem q26_24 {dA : Nat → ClassId} {d : Nat} {st : List Value} {f : pz_F} {Q : Option Value → pz_F → Prop} {v0 v1 v2 v3 v4 : Value} {x : Nat} : pz_R dA d 26 24 [v0, v1, v2, v3, v4] (.ref x :: st) f Q = pz_R dA d 26 27 [v0, v1, v2, v3, v4] st f Q := pz_go (pz_so d26_24 rfl)
theorem q26_24n {dA : Nat → ClassId} {d : Nat} {st : List Value} {f : pz_F} {Q : Option Value → pz_F → Prop} {v0 v1 v2 v3 v4 : Value} : pz_R dA d 26 24 [v0, v1, v2, v3, v4] (.null :: st) f Q = pz_R dA d 26 48 [v0, v1, v2, v3, v4] st f Q := pz_go (pz_so d26_24 rfl)
theorem d26_27 : decode (pz_b 26) 27 = .ok (.aload 4, 2) := by decide +kernel
theorem q26_27 {dA : Nat → ClassId} {d : Nat} {st : List Value} {f : pz_F} {Q : Option Value → pz_F → Prop} {v0 v1 v2 v3 : Value} {x : Nat} : pz_R dA d 26 27 [v0, v1, v2, v3, .ref x] st f Q = pz_R dA d 26 29 [v0, v1, v2, v3, .ref x] (.ref x :: st) f Q := pz_go (pz_so d26_27 rfl)
theorem q26_27n {dA : Nat → ClassId} {d : Nat} {st : List Value} {f : pz_F} {Q : Option Value → pz_F → Prop} {v0 v1 v2 v3 : Value} : pz_R dA d 26 27 [v0, v1, v2, v3, .null] st f Q = pz_R dA d 26 29 [v0, v1, v2, v3, .null] (.null :: st) f Q := pz_go (pz_so d26_27 rfl)
theorem d26_29 : decode (pz_b 26) 29 = .ok (.aload_n 1, 1) := by decide +kernel
theorem q26_29 {dA : Nat → ClassId} {d : Nat} {st : List Value} {f : pz_F} {Q : Option Value → pz_F → Prop} {v0 v2 v3 v4 : Value} {x : Nat} : pz_R dA d 26 29 [v0, .ref x, v2, v3, v4] st f Q = pz_R dA d 26 30 [v0, .ref x, v2, v3, v4] (.ref x :: st) f Q := pz_go (pz_so d26_29 rfl)
theorem q26_29n {dA : Nat → ClassId} {d : Nat} {st : List Value} {f : pz_F} {Q : Option Value → pz_F → Prop} {v0 v2 v3 v4 : Value} : pz_R dA d 26 29 [v0, .null, v2, v3, v4] st f Q = pz_R dA d 26 30 [v0, .null, v2, v3, v4] (.null :: st) f Q := pz_go (pz_so d26_29 rfl)
theorem d26_30 : decode (pz_b 26) 30 = .ok (.getfield 211, 3) := by decide +kernel
theorem q26_30 {dA : Nat → ClassId} {d : Nat} {st : List Value} {f : pz_F} {Q : Option Value → pz_F → Prop} {v0 v1 v2 v3 v4 : Value} {a : Nat} : pz_R dA d 26 30 [v0, v1, v2, v3, v4] (.ref a :: st) f Q = pz_o (pz_gf f a 5 4) (fun v => pz_R dA d 26 33 [v0, v1, v2, v3, v4] (v :: st) f Q) := pz_gg d26_30 rfl
theorem d26_33 : decode (pz_b 26) 33 = .ok (.putfield 211, 3) := by decide +kernel
theorem q26_33 {dA : Nat → ClassId} {d : Nat} {st : List Value} {f : pz_F} {Q : Option Value → pz_F → Prop} {v0 v1 v2 v3 v4 : Value} {x : Int32} {a : Nat} : pz_R dA d 26 33 [v0, v1, v2, v3, v4] (.int x :: .ref a :: st) f Q = pz_o (pz_pf f a 5 4 (.int x)) (fun f' => pz_R dA d 26 36 [v0, v1, v2, v3, v4] st f' Q) := pz_gp d26_33 rfl rfl rfl rfl
theorem d26_36 : decode (pz_b 26) 36 = .ok (.aload 4, 2) := by decide +kernel
theorem q26_36 {dA : Nat → ClassId} {d : Nat} {st : List Value} {f : pz_F} {Q : Option Value → pz_F → Prop} {v0 v1 v2 v3 : Value} {x : Nat} : pz_R dA d 26 36 [v0, v1, v2, v3, .ref x] st f Q = pz_R dA d 26 38 [v0, v1, v2, v3, .ref x] (.ref x :: st) f Q := pz_go (pz_so d26_36 rfl)
theorem q26_36n {dA : Nat → ClassId} {d : Nat} {st : List Value} {f : pz_F} {Q : Option Value → pz_F → Prop} {v0 v1 v2 v3 : Value} : pz_R dA d 26 36 [v0, v1, v2, v3, .null] st f Q = pz_R dA d 26 38 [v0, v1, v2, v3, .null] (.null :: st) f Q := pz_go (pz_so d26_36 rfl)
theorem d26_38 : decode (pz_b 26) 38 = .ok (.iload_n 2, 1) := by decide +kernel
theorem q26_38 {dA : Nat → ClassId} {d : Nat} {st : List Value} {f : pz_F} {Q : Option Value → pz_F → Prop} {v0 v1 v3 v4 : Value} {x : Int32} : pz_R dA d 26 38 [v0, v1, .int x, v3, v4] st f Q = pz_R dA d 26 39 [v0, v1, .int x, v3, v4] (.int x :: st) f Q := pz_go (pz_so d26_38 rfl)
theorem d26_39 : decode (pz_b 26) 39 = .ok (.putfield 80, 3) := by decide +kernel
theorem q26_39 {dA : Nat → ClassId} {d : Nat} {st : List Value} {f : pz_F} {Q : Option Value → pz_F → Prop} {v0 v1 v2 v3 v4 : Value} {x : Int32} {a : Nat} : pz_R dA d 26 39 [v0, v1, v2, v3, v4] (.int x :: .ref a :: st) f Q = pz_o (pz_pf f a 5 5 (.int x)) (fun f' => pz_R dA d 26 42 [v0, v1, v2, v3, v4] st f' Q) := pz_gp d26_39 rfl rfl rfl rfl
theorem d26_42 : decode (pz_b 26) 42 = .ok (.aload 4, 2) := by decide +kernel
theorem q26_42 {dA : Nat → ClassId} {d : Nat} {st : List Value} {f : pz_F} {Q : Option Value → pz_F → Prop} {v0 v1 v2 v3 : Value} {x : Nat} : pz_R dA d 26 42 [v0, v1, v2, v3, .ref x] st f Q = pz_R dA d 26 44 [v0, v1, v2, v3, .ref x] (.ref x :: st) f Q := pz_go (pz_so d26_42 rfl)
theorem q26_42n {dA : Nat → ClassId} {d : Nat} {st : List Value} {f : pz_F} {Q : Option Value → pz_F → Prop} {v0 v1 v2 v3 : Value} : pz_R dA d 26 42 [v0, v1, v2, v3, .null] st f Q = pz_R dA d 26 44 [v0, v1, v2, v3, .null] (.null :: st) f Q := pz_go (pz_so d26_42 rfl)
theorem d26_44 : decode (pz_b 26) 44 = .ok (.iload_n 3, 1) := by decide +kernel
theorem q26_44 {dA : Nat → ClassId} {d : Nat} {st : List Value} {f : pz_F} {Q : Option Value → pz_F → Prop} {v0 v1 v2 v4 : Value} {x : Int32} : pz_R dA d 26 44 [v0, v1, v2, .int x, v4] st f Q = pz_R dA d 26 45 [v0, v1, v2, .int x, v4] (.int x :: st) f Q := pz_go (pz_so d26_44 rfl)
theorem d26_45 : decode (pz_b 26) 45 = .ok (.putfield 189, 3) := by decide +kernel
theorem q26_45 {dA : Nat → ClassId} {d : Nat} {st : List Value} {f : pz_F} {Q : Option Value → pz_F → Prop} {v0 v1 v2 v3 v4 : Value} {x : Int32} {a : Nat} : pz_R dA d 26 45 [v0, v1, v2, v3, v4] (.int x :: .ref a :: st) f Q = pz_o (pz_pf f a 5 8 (.int x)) (fun f' => pz_R dA d 26 48 [v0, v1, v2, v3, v4] st f' Q) := pz_gp d26_45 rfl rfl rfl rfl
theorem d26_48 : decode (pz_b 26) 48 = .ok (.return_, 1) := by decide +kernel
theorem q26_48 {dA : Nat → ClassId} {d : Nat} {f : pz_F} {Q : Option Value → pz_F → Prop} {v0 v1 v2 v3 v4 : Value} : pz_R dA d 26 48 [v0, v1, v2, v3, v4] [] f Q = Q none f := pz_gr (pz_so d26_48 rfl)
/-! P_acknowledge (LLeasePair$Message;)V -/
theorem e27 {dA : Nat → ClassId} {d : Nat} {f : pz_F} {Q : Option Value → pz_F → Prop} {a0 : Nat} {a1 : Nat} : pz_C dA d 27 [.ref a0, .ref a1] f Q = pz_R dA d 27 0 [.ref a0, .ref a1, .retAddr 0] [] f Q := rfl
theorem d27_0 : decode (pz_b 27) 0 = .ok (.aload_n 0, 1) := by decide +kernel
theorem q27_0 {dA : Nat → ClassId} {d : Nat} {st : List Value} {f : pz_F} {Q : Option Value → pz_F → Prop} {v1 v2 : Value} {x : Nat} : pz_R dA d 27 0 [.ref x, v1, v2] st f Q = pz_R dA d 27 1 [.ref x, v1, v2] (.ref x :: st) f Q := pz_go (pz_so d27_0 rfl)
theorem d27_1 : decode (pz_b 27) 1 = .ok (.getfield 36, 3) := by decide +kernel
theorem q27_1 {dA : Nat → ClassId} {d : Nat} {st : List Value} {f : pz_F} {Q : Option Value → pz_F → Prop} {v0 v1 v2 : Value} {a : Nat} : pz_R dA d 27 1 [v0, v1, v2] (.ref a :: st) f Q = pz_o (pz_gf f a 0 4) (fun v => pz_R dA d 27 4 [v0, v1, v2] (v :: st) f Q) := pz_gg d27_1 rfl
theorem d27_4 : decode (pz_b 27) 4 = .ok (.iconst 5, 1) := by decide +kernel
theorem q27_4 {dA : Nat → ClassId} {d : Nat} {st : List Value} {f : pz_F} {Q : Option Value → pz_F → Prop} {v0 v1 v2 : Value} : pz_R dA d 27 4 [v0, v1, v2] st f Q = pz_R dA d 27 5 [v0, v1, v2] (.int 5 :: st) f Q := pz_go (pz_so d27_4 rfl)
theorem d27_5 : decode (pz_b 27) 5 = .ok (.aload_n 1, 1) := by decide +kernel
theorem q27_5 {dA : Nat → ClassId} {d : Nat} {st : List Value} {f : pz_F} {Q : Option Value → pz_F → Prop} {v0 v2 : Value} {x : Nat} : pz_R dA d 27 5 [v0, .ref x, v2] st f Q = pz_R dA d 27 6 [v0, .ref x, v2] (.ref x :: st) f Q := pz_go (pz_so d27_5 rfl)
theorem q27_5n {dA : Nat → ClassId} {d : Nat} {st : List Value} {f : pz_F} {Q : Option Value → pz_F → Prop} {v0 v2 : Value} : pz_R dA d 27 5 [v0, .null, v2] st f Q = pz_R dA d 27 6 [v0, .null, v2] (.null :: st) f Q := pz_go (pz_so d27_5 rfl)
theorem d27_6 : decode (pz_b 27) 6 = .ok (.getfield 212, 3) := by decide +kernel
theorem q27_6 {dA : Nat → ClassId} {d : Nat} {st : List Value} {f : pz_F} {Q : Option Value → pz_F → Prop} {v0 v1 v2 : Value} {a : Nat} : pz_R dA d 27 6 [v0, v1, v2] (.ref a :: st) f Q = pz_o (pz_gf f a 5 2) (fun v => pz_R dA d 27 9 [v0, v1, v2] (v :: st) f Q) := pz_gg d27_6 rfl
theorem d27_9 : decode (pz_b 27) 9 = .ok (.aload_n 1, 1) := by decide +kernel
theorem q27_9 {dA : Nat → ClassId} {d : Nat} {st : List Value} {f : pz_F} {Q : Option Value → pz_F → Prop} {v0 v2 : Value} {x : Nat} : pz_R dA d 27 9 [v0, .ref x, v2] st f Q = pz_R dA d 27 10 [v0, .ref x, v2] (.ref x :: st) f Q := pz_go (pz_so d27_9 rfl)
theorem q27_9n {dA : Nat → ClassId} {d : Nat} {st : List Value} {f : pz_F} {Q : Option Value → pz_F → Prop} {v0 v2 : Value} : pz_R dA d 27 9 [v0, .null, v2] st f Q = pz_R dA d 27 10 [v0, .null, v2] (.null :: st) f Q := pz_go (pz_so d27_9 rfl)
theorem d27_10 : decode (pz_b 27) 10 = .ok (.getfield 215, 3) := by decide +kernel
theorem q27_10 {dA : Nat → ClassId} {d : Nat} {st : List Value} {f : pz_F} {Q : Option Value → pz_F → Prop} {v0 v1 v2 : Value} {a : Nat} : pz_R dA d 27 10 [v0, v1, v2] (.ref a :: st) f Q = pz_o (pz_gf f a 5 1) (fun v => pz_R dA d 27 13 [v0, v1, v2] (v :: st) f Q) := pz_gg d27_10 rfl
theorem d27_13 : decode (pz_b 27) 13 = .ok (.aload_n 0, 1) := by decide +kernel
theorem q27_13 {dA : Nat → ClassId} {d : Nat} {st : List Value} {f : pz_F} {Q : Option Value → pz_F → Prop} {v1 v2 : Value} {x : Nat} : pz_R dA d 27 13 [.ref x, v1, v2] st f Q = pz_R dA d 27 14 [.ref x, v1, v2] (.ref x :: st) f Q := pz_go (pz_so d27_13 rfl)
theorem d27_14 : decode (pz_b 27) 14 = .ok (.getfield 7, 3) := by decide +kernel
theorem q27_14 {dA : Nat → ClassId} {d : Nat} {st : List Value} {f : pz_F} {Q : Option Value → pz_F → Prop} {v0 v1 v2 : Value} {a : Nat} : pz_R dA d 27 14 [v0, v1, v2] (.ref a :: st) f Q = pz_o (pz_gf f a 0 0) (fun v => pz_R dA d 27 17 [v0, v1, v2] (v :: st) f Q) := pz_gg d27_14 rfl
theorem d27_17 : decode (pz_b 27) 17 = .ok (.invokevirtual 76, 3) := by decide +kernel
theorem q27_17 {dA : Nat → ClassId} {d : Nat} {st : List Value} {f : pz_F} {Q : Option Value → pz_F → Prop} {v0 v1 v2 : Value} {c0 : Int32} {c1 : Int32} {c2 : Int32} {c3 : Int32} {b : Nat} (hr : st.length ≤ 4) : pz_R dA (d + 1) 27 17 [v0, v1, v2] (.int c3 :: .int c2 :: .int c1 :: .int c0 :: .ref b :: st) f Q = pz_o (pz_gu f b 4) (fun _ => pz_C dA d 74 [.ref b, .int c0, .int c1, .int c2, .int c3] f (fun r f' => pz_R dA (d + 1) 27 20 [v0, v1, v2] (r.toList ++ st) f' Q)) := pz_gcv (As := [.int c0, .int c1, .int c2, .int c3]) d27_17 rfl rfl rfl hr
theorem d27_20 : decode (pz_b 27) 20 = .ok (.astore_n 2, 1) := by decide +kernel
theorem q27_20 {dA : Nat → ClassId} {d : Nat} {st : List Value} {f : pz_F} {Q : Option Value → pz_F → Prop} {v0 v1 v2 : Value} {x : Nat} : pz_R dA d 27 20 [v0, v1, v2] (.ref x :: st) f Q = pz_R dA d 27 21 [v0, v1, .ref x] st f Q := pz_go (pz_so d27_20 rfl)
theorem q27_20n {dA : Nat → ClassId} {d : Nat} {st : List Value} {f : pz_F} {Q : Option Value → pz_F → Prop} {v0 v1 v2 : Value} : pz_R dA d 27 20 [v0, v1, v2] (.null :: st) f Q = pz_R dA d 27 21 [v0, v1, .null] st f Q := pz_go (pz_so d27_20 rfl)
theorem d27_21 : decode (pz_b 27) 21 = .ok (.aload_n 2, 1) := by decide +kernel
theorem q27_21 {dA : Nat → ClassId} {d : Nat} {st : List Value} {f : pz_F} {Q : Option Value → pz_F → Prop} {v0 v1 : Value} {x : Nat} : pz_R dA d 27 21 [v0, v1, .ref x] st f Q = pz_R dA d 27 22 [v0, v1, .ref x] (.ref x :: st) f Q := pz_go (pz_so d27_21 rfl)
theorem q27_21n {dA : Nat → ClassId} {d : Nat} {st : List Value} {f : pz_F} {Q : Option Value → pz_F → Prop} {v0 v1 : Value} : pz_R dA d 27 21 [v0, v1, .null] st f Q = pz_R dA d 27 22 [v0, v1, .null] (.null :: st) f Q := pz_go (pz_so d27_21 rfl)
theorem d27_22 : decode (pz_b 27) 22 = .ok (.ifnull 35, 3) := by decide +kernel
theorem q27_22 {dA : Nat → ClassId} {d : Nat} {st : List Value} {f : pz_F} {Q : Option Value → pz_F → Prop} {v0 v1 v2 : Value} {x : Nat} : pz_R dA d 27 22 [v0, v1, v2] (.ref x :: st) f Q = pz_R dA d 27 25 [v0, v1, v2] st f Q := pz_go (pz_so d27_22 rfl)
theorem q27_22n {dA : Nat → ClassId} {d : Nat} {st : List Value} {f : pz_F} {Q : Option Value → pz_F → Prop} {v0 v1 v2 : Value} : pz_R dA d 27 22 [v0, v1, v2] (.null :: st) f Q = pz_R dA d 27 57 [v0, v1, v2] st f Q := pz_go (pz_so d27_22 rfl)
theorem d27_25 : decode (pz_b 27) 25 = .ok (.aload_n 2, 1) := by decide +kernel
theorem q27_25 {dA : Nat → ClassId} {d : Nat} {st : List Value} {f : pz_F} {Q : Option Value → pz_F → Prop} {v0 v1 : Value} {x : Nat} : pz_R dA d 27 25 [v0, v1, .ref x] st f Q = pz_R dA d 27 26 [v0, v1, .ref x] (.ref x :: st) f Q := pz_go (pz_so d27_25 rfl)
theorem q27_25n {dA : Nat → ClassId} {d : Nat} {st : List Value} {f : pz_F} {Q : Option Value → pz_F → Prop} {v0 v1 : Value} : pz_R dA d 27 25 [v0, v1, .null] st f Q = pz_R dA d 27 26 [v0, v1, .null] (.null :: st) f Q := pz_go (pz_so d27_25 rfl)
theorem d27_26 : decode (pz_b 27) 26 = .ok (.aload_n 1, 1) := by decide +kernel
theorem q27_26 {dA : Nat → ClassId} {d : Nat} {st : List Value} {f : pz_F} {Q : Option Value → pz_F → Prop} {v0 v2 : Value} {x : Nat} : pz_R dA d 27 26 [v0, .ref x, v2] st f Q = pz_R dA d 27 27 [v0, .ref x, v2] (.ref x :: st) f Q := pz_go (pz_so d27_26 rfl)
theorem q27_26n {dA : Nat → ClassId} {d : Nat} {st : List Value} {f : pz_F} {Q : Option Value → pz_F → Prop} {v0 v2 : Value} : pz_R dA d 27 26 [v0, .null, v2] st f Q = pz_R dA d 27 27 [v0, .null, v2] (.null :: st) f Q := pz_go (pz_so d27_26 rfl)
theorem d27_27 : decode (pz_b 27) 27 = .ok (.getfield 80, 3) := by decide +kernel
theorem q27_27 {dA : Nat → ClassId} {d : Nat} {st : List Value} {f : pz_F} {Q : Option Value → pz_F → Prop} {v0 v1 v2 : Value} {a : Nat} : pz_R dA d 27 27 [v0, v1, v2] (.ref a :: st) f Q = pz_o (pz_gf f a 5 5) (fun v => pz_R dA d 27 30 [v0, v1, v2] (v :: st) f Q) := pz_gg d27_27 rfl
theorem d27_30 : decode (pz_b 27) 30 = .ok (.putfield 80, 3) := by decide +kernel
theorem q27_30 {dA : Nat → ClassId} {d : Nat} {st : List Value} {f : pz_F} {Q : Option Value → pz_F → Prop} {v0 v1 v2 : Value} {x : Int32} {a : Nat} : pz_R dA d 27 30 [v0, v1, v2] (.int x :: .ref a :: st) f Q = pz_o (pz_pf f a 5 5 (.int x)) (fun f' => pz_R dA d 27 33 [v0, v1, v2] st f' Q) := pz_gp d27_30 rfl rfl rfl rfl
theorem d27_33 : decode (pz_b 27) 33 = .ok (.aload_n 2, 1) := by decide +kernel
theorem q27_33 {dA : Nat → ClassId} {d : Nat} {st : List Value} {f : pz_F} {Q : Option Value → pz_F → Prop} {v0 v1 : Value} {x : Nat} : pz_R dA d 27 33 [v0, v1, .ref x] st f Q = pz_R dA d 27 34 [v0, v1, .ref x] (.ref x :: st) f Q := pz_go (pz_so d27_33 rfl)
theorem q27_33n {dA : Nat → ClassId} {d : Nat} {st : List Value} {f : pz_F} {Q : Option Value → pz_F → Prop} {v0 v1 : Value} : pz_R dA d 27 33 [v0, v1, .null] st f Q = pz_R dA d 27 34 [v0, v1, .null] (.null :: st) f Q := pz_go (pz_so d27_33 rfl)
theorem d27_34 : decode (pz_b 27) 34 = .ok (.aload_n 1, 1) := by decide +kernel
theorem q27_34 {dA : Nat → ClassId} {d : Nat} {st : List Value} {f : pz_F} {Q : Option Value → pz_F → Prop} {v0 v2 : Value} {x : Nat} : pz_R dA d 27 34 [v0, .ref x, v2] st f Q = pz_R dA d 27 35 [v0, .ref x, v2] (.ref x :: st) f Q := pz_go (pz_so d27_34 rfl)
theorem q27_34n {dA : Nat → ClassId} {d : Nat} {st : List Value} {f : pz_F} {Q : Option Value → pz_F → Prop} {v0 v2 : Value} : pz_R dA d 27 34 [v0, .null, v2] st f Q = pz_R dA d 27 35 [v0, .null, v2] (.null :: st) f Q := pz_go (pz_so d27_34 rfl)
theorem d27_35 : decode (pz_b 27) 35 = .ok (.getfield 193, 3) := by decide +kernel
theorem q27_35 {dA : Nat → ClassId} {d : Nat} {st : List Value} {f : pz_F} {Q : Option Value → pz_F → Prop} {v0 v1 v2 : Value} {a : Nat} : pz_R dA d 27 35 [v0, v1, v2] (.ref a :: st) f Q = pz_o (pz_gf f a 5 9) (fun v => pz_R dA d 27 38 [v0, v1, v2] (v :: st) f Q) := pz_gg d27_35 rfl
theorem d27_38 : decode (pz_b 27) 38 = .ok (.putfield 193, 3) := by decide +kernel
theorem q27_38 {dA : Nat → ClassId} {d : Nat} {st : List Value} {f : pz_F} {Q : Option Value → pz_F → Prop} {v0 v1 v2 : Value} {x : Int32} {a : Nat} : pz_R dA d 27 38 [v0, v1, v2] (.int x :: .ref a :: st) f Q = pz_o (pz_pf f a 5 9 (.int x)) (fun f' => pz_R dA d 27 41 [v0, v1, v2] st f' Q) := pz_gp d27_38 rfl rfl rfl rfl
theorem d27_41 : decode (pz_b 27) 41 = .ok (.aload_n 2, 1) := by decide +kernel
theorem q27_41 {dA : Nat → ClassId} {d : Nat} {st : List Value} {f : pz_F} {Q : Option Value → pz_F → Prop} {v0 v1 : Value} {x : Nat} : pz_R dA d 27 41 [v0, v1, .ref x] st f Q = pz_R dA d 27 42 [v0, v1, .ref x] (.ref x :: st) f Q := pz_go (pz_so d27_41 rfl)
theorem q27_41n {dA : Nat → ClassId} {d : Nat} {st : List Value} {f : pz_F} {Q : Option Value → pz_F → Prop} {v0 v1 : Value} : pz_R dA d 27 41 [v0, v1, .null] st f Q = pz_R dA d 27 42 [v0, v1, .null] (.null :: st) f Q := pz_go (pz_so d27_41 rfl)
theorem d27_42 : decode (pz_b 27) 42 = .ok (.aload_n 1, 1) := by decide +kernel
theorem q27_42 {dA : Nat → ClassId} {d : Nat} {st : List Value} {f : pz_F} {Q : Option Value → pz_F → Prop} {v0 v2 : Value} {x : Nat} : pz_R dA d 27 42 [v0, .ref x, v2] st f Q = pz_R dA d 27 43 [v0, .ref x, v2] (.ref x :: st) f Q := pz_go (pz_so d27_42 rfl)
theorem q27_42n {dA : Nat → ClassId} {d : Nat} {st : List Value} {f : pz_F} {Q : Option Value → pz_F → Prop} {v0 v2 : Value} : pz_R dA d 27 42 [v0, .null, v2] st f Q = pz_R dA d 27 43 [v0, .null, v2] (.null :: st) f Q := pz_go (pz_so d27_42 rfl)
theorem d27_43 : decode (pz_b 27) 43 = .ok (.getfield 197, 3) := by decide +kernel
theorem q27_43 {dA : Nat → ClassId} {d : Nat} {st : List Value} {f : pz_F} {Q : Option Value → pz_F → Prop} {v0 v1 v2 : Value} {a : Nat} : pz_R dA d 27 43 [v0, v1, v2] (.ref a :: st) f Q = pz_o (pz_gf f a 5 10) (fun v => pz_R dA d 27 46 [v0, v1, v2] (v :: st) f Q) := pz_gg d27_43 rfl
theorem d27_46 : decode (pz_b 27) 46 = .ok (.putfield 197, 3) := by decide +kernel
theorem q27_46 {dA : Nat → ClassId} {d : Nat} {st : List Value} {f : pz_F} {Q : Option Value → pz_F → Prop} {v0 v1 v2 : Value} {x : Int32} {a : Nat} : pz_R dA d 27 46 [v0, v1, v2] (.int x :: .ref a :: st) f Q = pz_o (pz_pf f a 5 10 (.int x)) (fun f' => pz_R dA d 27 49 [v0, v1, v2] st f' Q) := pz_gp d27_46 rfl rfl rfl rfl
theorem d27_49 : decode (pz_b 27) 49 = .ok (.aload_n 2, 1) := by decide +kernel
theorem q27_49 {dA : Nat → ClassId} {d : Nat} {st : List Value} {f : pz_F} {Q : Option Value → pz_F → Prop} {v0 v1 : Value} {x : Nat} : pz_R dA d 27 49 [v0, v1, .ref x] st f Q = pz_R dA d 27 50 [v0, v1, .ref x] (.ref x :: st) f Q := pz_go (pz_so d27_49 rfl)
theorem q27_49n {dA : Nat → ClassId} {d : Nat} {st : List Value} {f : pz_F} {Q : Option Value → pz_F → Prop} {v0 v1 : Value} : pz_R dA d 27 49 [v0, v1, .null] st f Q = pz_R dA d 27 50 [v0, v1, .null] (.null :: st) f Q := pz_go (pz_so d27_49 rfl)
theorem d27_50 : decode (pz_b 27) 50 = .ok (.aload_n 1, 1) := by decide +kernel
theorem q27_50 {dA : Nat → ClassId} {d : Nat} {st : List Value} {f : pz_F} {Q : Option Value → pz_F → Prop} {v0 v2 : Value} {x : Nat} : pz_R dA d 27 50 [v0, .ref x, v2] st f Q = pz_R dA d 27 51 [v0, .ref x, v2] (.ref x :: st) f Q := pz_go (pz_so d27_50 rfl)
theorem q27_50n {dA : Nat → ClassId} {d : Nat} {st : List Value} {f : pz_F} {Q : Option Value → pz_F → Prop} {v0 v2 : Value} : pz_R dA d 27 50 [v0, .null, v2] st f Q = pz_R dA d 27 51 [v0, .null, v2] (.null :: st) f Q := pz_go (pz_so d27_50 rfl)
theorem d27_51 : decode (pz_b 27) 51 = .ok (.getfield 198, 3) := by decide +kernel
theorem q27_51 {dA : Nat → ClassId} {d : Nat} {st : List Value} {f : pz_F} {Q : Option Value → pz_F → Prop} {v0 v1 v2 : Value} {a : Nat} : pz_R dA d 27 51 [v0, v1, v2] (.ref a :: st) f Q = pz_o (pz_gf f a 5 11) (fun v => pz_R dA d 27 54 [v0, v1, v2] (v :: st) f Q) := pz_gg d27_51 rfl
theorem d27_54 : decode (pz_b 27) 54 = .ok (.putfield 198, 3) := by decide +kernel
theorem q27_54 {dA : Nat → ClassId} {d : Nat} {st : List Value} {f : pz_F} {Q : Option Value → pz_F → Prop} {v0 v1 v2 : Value} {x : Int32} {a : Nat} : pz_R dA d 27 54 [v0, v1, v2] (.int x :: .ref a :: st) f Q = pz_o (pz_pf f a 5 11 (.int x)) (fun f' => pz_R dA d 27 57 [v0, v1, v2] st f' Q) := pz_gp d27_54 rfl rfl rfl rfl
theorem d27_57 : decode (pz_b 27) 57 = .ok (.return_, 1) := by decide +kernel
theorem q27_57 {dA : Nat → ClassId} {d : Nat} {f : pz_F} {Q : Option Value → pz_F → Prop} {v0 v1 v2 : Value} : pz_R dA d 27 57 [v0, v1, v2] [] f Q = Q none f := pz_gr (pz_so d27_57 rfl)
/-! P_canArrive (LLeasePair$Message;)Z -/
theorem e28 {dA : Nat → ClassId} {d : Nat} {f : pz_F} {Q : Option Value → pz_F → Prop} {a0 : Nat} {a1 : Nat} : pz_C dA d 28 [.ref a0, .ref a1] f Q = pz_R dA d 28 0 [.ref a0, .ref a1] [] f Q := rfl
theorem d28_0 : decode (pz_b 28) 0 = .ok (.aload_n 1, 1) := by decide +kernel
theorem q28_0 {dA : Nat → ClassId} {d : Nat} {st : List Value} {f : pz_F} {Q : Option Value → pz_F → Prop} {v0 : Value} {x : Nat} : pz_R dA d 28 0 [v0, .ref x] st f Q = pz_R dA d 28 1 [v0, .ref x] (.ref x :: st) f Q := pz_go (pz_so d28_0 rfl)
theorem q28_0n {dA : Nat → ClassId} {d : Nat} {st : List Value} {f : pz_F} {Q : Option Value → pz_F → Prop} {v0 : Value} : pz_R dA d 28 0 [v0, .null] st f Q = pz_R dA d 28 1 [v0, .null] (.null :: st) f Q := pz_go (pz_so d28_0 rfl)
theorem d28_1 : decode (pz_b 28) 1 = .ok (.invokevirtual 218, 3) := by decide +kernel
theorem q28_1 {dA : Nat → ClassId} {d : Nat} {st : List Value} {f : pz_F} {Q : Option Value → pz_F → Prop} {v0 v1 : Value} {b : Nat} (hr : st.length ≤ 4) : pz_R dA (d + 1) 28 1 [v0, v1] (.ref b :: st) f Q = pz_o (pz_gu f b 5) (fun _ => pz_C dA d 81 [.ref b] f (fun r f' => pz_R dA (d + 1) 28 4 [v0, v1] (r.toList ++ st) f' Q)) := pz_gcv (As := []) d28_1 rfl rfl rfl hr
theorem d28_4 : decode (pz_b 28) 4 = .ok (.ifCond .eq 8, 3) := by decide +kernel
theorem q28_4 {dA : Nat → ClassId} {d : Nat} {st : List Value} {f : pz_F} {Q : Option Value → pz_F → Prop} {v0 v1 : Value} {x : Int32} : pz_R dA d 28 4 [v0, v1] (.int x :: st) f Q = (if x = 0 then pz_R dA d 28 12 [v0, v1] st f Q else pz_R dA d 28 7 [v0, v1] st f Q) := pz_gj1 .eq d28_4 rfl
theorem d28_7 : decode (pz_b 28) 7 = .ok (.aload_n 0, 1) := by decide +kernel
theorem q28_7 {dA : Nat → ClassId} {d : Nat} {st : List Value} {f : pz_F} {Q : Option Value → pz_F → Prop} {v1 : Value} {x : Nat} : pz_R dA d 28 7 [.ref x, v1] st f Q = pz_R dA d 28 8 [.ref x, v1] (.ref x :: st) f Q := pz_go (pz_so d28_7 rfl)
theorem d28_8 : decode (pz_b 28) 8 = .ok (.invokevirtual 143, 3) := by decide +kernel
theorem q28_8 {dA : Nat → ClassId} {d : Nat} {st : List Value} {f : pz_F} {Q : Option Value → pz_F → Prop} {v0 v1 : Value} {b : Nat} (hr : st.length ≤ 4) : pz_R dA (d + 1) 28 8 [v0, v1] (.ref b :: st) f Q = pz_o (pz_gu f b 0) (fun _ => pz_C dA d 19 [.ref b] f (fun r f' => pz_R dA (d + 1) 28 11 [v0, v1] (r.toList ++ st) f' Q)) := pz_gcv (As := []) d28_8 rfl rfl rfl hr
theorem d28_11 : decode (pz_b 28) 11 = .ok (.ireturn, 1) := by decide +kernel
theorem q28_11z {dA : Nat → ClassId} {d : Nat} {f : pz_F} {Q : Option Value → pz_F → Prop} {v0 v1 : Value} : pz_R dA d 28 11 [v0, v1] [.int 0] f Q = Q (some (.int 0)) f := pz_gri d28_11 rfl rfl
theorem q28_11o {dA : Nat → ClassId} {d : Nat} {f : pz_F} {Q : Option Value → pz_F → Prop} {v0 v1 : Value} : pz_R dA d 28 11 [v0, v1] [.int 1] f Q = Q (some (.int 1)) f := pz_gri d28_11 rfl rfl
theorem d28_12 : decode (pz_b 28) 12 = .ok (.aload_n 1, 1) := by decide +kernel
theorem q28_12 {dA : Nat → ClassId} {d : Nat} {st : List Value} {f : pz_F} {Q : Option Value → pz_F → Prop} {v0 : Value} {x : Nat} : pz_R dA d 28 12 [v0, .ref x] st f Q = pz_R dA d 28 13 [v0, .ref x] (.ref x :: st) f Q := pz_go (pz_so d28_12 rfl)
theorem q28_12n {dA : Nat → ClassId} {d : Nat} {st : List Value} {f : pz_F} {Q : Option Value → pz_F → Prop} {v0 : Value} : pz_R dA d 28 12 [v0, .null] st f Q = pz_R dA d 28 13 [v0, .null] (.null :: st) f Q := pz_go (pz_so d28_12 rfl)
theorem d28_13 : decode (pz_b 28) 13 = .ok (.invokevirtual 221, 3) := by decide +kernel
theorem q28_13 {dA : Nat → ClassId} {d : Nat} {st : List Value} {f : pz_F} {Q : Option Value → pz_F → Prop} {v0 v1 : Value} {b : Nat} (hr : st.length ≤ 4) : pz_R dA (d + 1) 28 13 [v0, v1] (.ref b :: st) f Q = pz_o (pz_gu f b 5) (fun _ => pz_C dA d 82 [.ref b] f (fun r f' => pz_R dA (d + 1) 28 16 [v0, v1] (r.toList ++ st) f' Q)) := pz_gcv (As := []) d28_13 rfl rfl rfl hr
theorem d28_16 : decode (pz_b 28) 16 = .ok (.ifCond .eq 18, 3) := by decide +kernel
theorem q28_16 {dA : Nat → ClassId} {d : Nat} {st : List Value} {f : pz_F} {Q : Option Value → pz_F → Prop} {v0 v1 : Value} {x : Int32} : pz_R dA d 28 16 [v0, v1] (.int x :: st) f Q = (if x = 0 then pz_R dA d 28 34 [v0, v1] st f Q else pz_R dA d 28 19 [v0, v1] st f Q) := pz_gj1 .eq d28_16 rfl
theorem d28_19 : decode (pz_b 28) 19 = .ok (.aload_n 0, 1) := by decide +kernel
theorem q28_19 {dA : Nat → ClassId} {d : Nat} {st : List Value} {f : pz_F} {Q : Option Value → pz_F → Prop} {v1 : Value} {x : Nat} : pz_R dA d 28 19 [.ref x, v1] st f Q = pz_R dA d 28 20 [.ref x, v1] (.ref x :: st) f Q := pz_go (pz_so d28_19 rfl)
theorem d28_20 : decode (pz_b 28) 20 = .ok (.getfield 19, 3) := by decide +kernel
theorem q28_20 {dA : Nat → ClassId} {d : Nat} {st : List Value} {f : pz_F} {Q : Option Value → pz_F → Prop} {v0 v1 : Value} {a : Nat} : pz_R dA d 28 20 [v0, v1] (.ref a :: st) f Q = pz_o (pz_gf f a 0 2) (fun v => pz_R dA d 28 23 [v0, v1] (v :: st) f Q) := pz_gg d28_20 rfl
theorem d28_23 : decode (pz_b 28) 23 = .ok (.aload_n 1, 1) := by decide +kernel
theorem q28_23 {dA : Nat → ClassId} {d : Nat} {st : List Value} {f : pz_F} {Q : Option Value → pz_F → Prop} {v0 : Value} {x : Nat} : pz_R dA d 28 23 [v0, .ref x] st f Q = pz_R dA d 28 24 [v0, .ref x] (.ref x :: st) f Q := pz_go (pz_so d28_23 rfl)
theorem q28_23n {dA : Nat → ClassId} {d : Nat} {st : List Value} {f : pz_F} {Q : Option Value → pz_F → Prop} {v0 : Value} : pz_R dA d 28 23 [v0, .null] st f Q = pz_R dA d 28 24 [v0, .null] (.null :: st) f Q := pz_go (pz_so d28_23 rfl)
theorem d28_24 : decode (pz_b 28) 24 = .ok (.getfield 212, 3) := by decide +kernel
theorem q28_24 {dA : Nat → ClassId} {d : Nat} {st : List Value} {f : pz_F} {Q : Option Value → pz_F → Prop} {v0 v1 : Value} {a : Nat} : pz_R dA d 28 24 [v0, v1] (.ref a :: st) f Q = pz_o (pz_gf f a 5 2) (fun v => pz_R dA d 28 27 [v0, v1] (v :: st) f Q) := pz_gg d28_24 rfl
theorem d28_27 : decode (pz_b 28) 27 = .ok (.aaload, 1) := by decide +kernel
theorem q28_27 {dA : Nat → ClassId} {d : Nat} {st : List Value} {f : pz_F} {Q : Option Value → pz_F → Prop} {v0 v1 : Value} {i : Int32} {a : Nat} : pz_R dA d 28 27 [v0, v1] (.int i :: .ref a :: st) f Q = pz_o (pz_rl dA f a i) (fun v => pz_R dA d 28 28 [v0, v1] (v :: st) f Q) := pz_grl d28_27
theorem d28_28 : decode (pz_b 28) 28 = .ok (.getfield 46, 3) := by decide +kernel
theorem q28_28 {dA : Nat → ClassId} {d : Nat} {st : List Value} {f : pz_F} {Q : Option Value → pz_F → Prop} {v0 v1 : Value} {a : Nat} : pz_R dA d 28 28 [v0, v1] (.ref a :: st) f Q = pz_o (pz_gf f a 1 2) (fun v => pz_R dA d 28 31 [v0, v1] (v :: st) f Q) := pz_gg d28_28 rfl
theorem d28_31 : decode (pz_b 28) 31 = .ok (.ifCond .eq 7, 3) := by decide +kernel
theorem q28_31 {dA : Nat → ClassId} {d : Nat} {st : List Value} {f : pz_F} {Q : Option Value → pz_F → Prop} {v0 v1 : Value} {x : Int32} : pz_R dA d 28 31 [v0, v1] (.int x :: st) f Q = (if x = 0 then pz_R dA d 28 38 [v0, v1] st f Q else pz_R dA d 28 34 [v0, v1] st f Q) := pz_gj1 .eq d28_31 rfl
theorem d28_34 : decode (pz_b 28) 34 = .ok (.iconst 1, 1) := by decide +kernel
theorem q28_34 {dA : Nat → ClassId} {d : Nat} {st : List Value} {f : pz_F} {Q : Option Value → pz_F → Prop} {v0 v1 : Value} : pz_R dA d 28 34 [v0, v1] st f Q = pz_R dA d 28 35 [v0, v1] (.int 1 :: st) f Q := pz_go (pz_so d28_34 rfl)
theorem d28_35 : decode (pz_b 28) 35 = .ok (.goto 4, 3) := by decide +kernel
theorem q28_35 {dA : Nat → ClassId} {d : Nat} {st : List Value} {f : pz_F} {Q : Option Value → pz_F → Prop} {v0 v1 : Value} : pz_R dA d 28 35 [v0, v1] st f Q = pz_R dA d 28 39 [v0, v1] st f Q := pz_go (pz_so d28_35 rfl)
theorem d28_38 : decode (pz_b 28) 38 = .ok (.iconst 0, 1) := by decide +kernel
theorem q28_38 {dA : Nat → ClassId} {d : Nat} {st : List Value} {f : pz_F} {Q : Option Value → pz_F → Prop} {v0 v1 : Value} : pz_R dA d 28 38 [v0, v1] st f Q = pz_R dA d 28 39 [v0, v1] (.int 0 :: st) f Q := pz_go (pz_so d28_38 rfl)
theorem d28_39 : decode (pz_b 28) 39 = .ok (.ireturn, 1) := by decide +kernel
theorem q28_39z {dA : Nat → ClassId} {d : Nat} {f : pz_F} {Q : Option Value → pz_F → Prop} {v0 v1 : Value} : pz_R dA d 28 39 [v0, v1] [.int 0] f Q = Q (some (.int 0)) f := pz_gri d28_39 rfl rfl
theorem q28_39o {dA : Nat → ClassId} {d : Nat} {f : pz_F} {Q : Option Value → pz_F → Prop} {v0 v1 : Value} : pz_R dA d 28 39 [v0, v1] [.int 1] f Q = Q (some (.int 1)) f := pz_gri d28_39 rfl rfl
/-! P_arrive (LLeasePair$Message;)V -/
theorem e29 {dA : Nat → ClassId} {d : Nat} {f : pz_F} {Q : Option Value → pz_F → Prop} {a0 : Nat} {a1 : Nat} : pz_C dA d 29 [.ref a0, .ref a1] f Q = pz_R dA d 29 0 [.ref a0, .ref a1] [] f Q := rfl
theorem d29_0 : decode (pz_b 29) 0 = .ok (.aload_n 1, 1) := by decide +kernel
theorem q29_0 {dA : Nat → ClassId} {d : Nat} {st : List Value} {f : pz_F} {Q : Option Value → pz_F → Prop} {v0 : Value} {x : Nat} : pz_R dA d 29 0 [v0, .ref x] st f Q = pz_R dA d 29 1 [v0, .ref x] (.ref x :: st) f Q := pz_go (pz_so d29_0 rfl)
theorem q29_0n {dA : Nat → ClassId} {d : Nat} {st : List Value} {f : pz_F} {Q : Option Value → pz_F → Prop} {v0 : Value} : pz_R dA d 29 0 [v0, .null] st f Q = pz_R dA d 29 1 [v0, .null] (.null :: st) f Q := pz_go (pz_so d29_0 rfl)
theorem d29_1 : decode (pz_b 29) 1 = .ok (.getfield 224, 3) := by decide +kernel
theorem q29_1 {dA : Nat → ClassId} {d : Nat} {st : List Value} {f : pz_F} {Q : Option Value → pz_F → Prop} {v0 v1 : Value} {a : Nat} : pz_R dA d 29 1 [v0, v1] (.ref a :: st) f Q = pz_o (pz_gf f a 5 0) (fun v => pz_R dA d 29 4 [v0, v1] (v :: st) f Q) := pz_gg d29_1 rfl
theorem d29_4 : decode (pz_b 29) 4 = .ok (.tableswitch 108 0 5 #[40, 48, 68, 84, 92, 100], 40) := by decide +kernel
theorem q29_4 {dA : Nat → ClassId} {d : Nat} {st : List Value} {f : pz_F} {Q : Option Value → pz_F → Prop} {v0 v1 : Value} {x : Int32} : pz_R dA d 29 4 [v0, v1] (.int x :: st) f Q = if x = 0 then pz_R dA d 29 44 [v0, v1] st f Q else (if x = 1 then pz_R dA d 29 52 [v0, v1] st f Q else (if x = 2 then pz_R dA d 29 72 [v0, v1] st f Q else (if x = 3 then pz_R dA d 29 88 [v0, v1] st f Q else (if x = 4 then pz_R dA d 29 96 [v0, v1] st f Q else (if x = 5 then pz_R dA d 29 104 [v0, v1] st f Q else (pz_R dA d 29 112 [v0, v1] st f Q)))))) := by
  by_cases h0 : x = 0
  · subst h0
    rw [if_pos rfl]
    exact pz_gti d29_4 (by decide) rfl rfl
  rw [if_neg h0]
  by_cases h1 : x = 1
  · subst h1
    rw [if_pos rfl]
    exact pz_gti d29_4 (by decide) rfl rfl
  rw [if_neg h1]
  by_cases h2 : x = 2
  · subst h2
    rw [if_pos rfl]
    exact pz_gti d29_4 (by decide) rfl rfl
  rw [if_neg h2]
  by_cases h3 : x = 3
  · subst h3
    rw [if_pos rfl]
    exact pz_gti d29_4 (by decide) rfl rfl
  rw [if_neg h3]
  by_cases h4 : x = 4
  · subst h4
    rw [if_pos rfl]
    exact pz_gti d29_4 (by decide) rfl rfl
  rw [if_neg h4]
  by_cases h5 : x = 5
  · subst h5
    rw [if_pos rfl]
    exact pz_gti d29_4 (by decide) rfl rfl
  rw [if_neg h5]
  refine pz_gtd d29_4 ?_ rfl
  have g0 : ¬ x.toInt = 0 := lv_neT h0 (by decide)
  have g1 : ¬ x.toInt = 1 := lv_neT h1 (by decide)
  have g2 : ¬ x.toInt = 2 := lv_neT h2 (by decide)
  have g3 : ¬ x.toInt = 3 := lv_neT h3 (by decide)
  have g4 : ¬ x.toInt = 4 := lv_neT h4 (by decide)
  have g5 : ¬ x.toInt = 5 := lv_neT h5 (by decide)
  omega
theorem d29_44 : decode (pz_b 29) 44 = .ok (.aload_n 0, 1) := by decide +kernel
theorem q29_44 {dA : Nat → ClassId} {d : Nat} {st : List Value} {f : pz_F} {Q : Option Value → pz_F → Prop} {v1 : Value} {x : Nat} : pz_R dA d 29 44 [.ref x, v1] st f Q = pz_R dA d 29 45 [.ref x, v1] (.ref x :: st) f Q := pz_go (pz_so d29_44 rfl)
theorem d29_45 : decode (pz_b 29) 45 = .ok (.aload_n 1, 1) := by decide +kernel
theorem q29_45 {dA : Nat → ClassId} {d : Nat} {st : List Value} {f : pz_F} {Q : Option Value → pz_F → Prop} {v0 : Value} {x : Nat} : pz_R dA d 29 45 [v0, .ref x] st f Q = pz_R dA d 29 46 [v0, .ref x] (.ref x :: st) f Q := pz_go (pz_so d29_45 rfl)
theorem q29_45n {dA : Nat → ClassId} {d : Nat} {st : List Value} {f : pz_F} {Q : Option Value → pz_F → Prop} {v0 : Value} : pz_R dA d 29 45 [v0, .null] st f Q = pz_R dA d 29 46 [v0, .null] (.null :: st) f Q := pz_go (pz_so d29_45 rfl)
theorem d29_46 : decode (pz_b 29) 46 = .ok (.invokevirtual 225, 3) := by decide +kernel
theorem q29_46 {dA : Nat → ClassId} {d : Nat} {st : List Value} {f : pz_F} {Q : Option Value → pz_F → Prop} {v0 v1 : Value} {c0 : Nat} {b : Nat} (hr : st.length ≤ 4) : pz_R dA (d + 1) 29 46 [v0, v1] (.ref c0 :: .ref b :: st) f Q = pz_o (pz_gu f b 0) (fun _ => pz_C dA d 30 [.ref b, .ref c0] f (fun r f' => pz_R dA (d + 1) 29 49 [v0, v1] (r.toList ++ st) f' Q)) := pz_gcv (As := [.ref c0]) d29_46 rfl rfl rfl hr
theorem d29_49 : decode (pz_b 29) 49 = .ok (.goto 68, 3) := by decide +kernel
theorem q29_49 {dA : Nat → ClassId} {d : Nat} {st : List Value} {f : pz_F} {Q : Option Value → pz_F → Prop} {v0 v1 : Value} : pz_R dA d 29 49 [v0, v1] st f Q = pz_R dA d 29 117 [v0, v1] st f Q := pz_go (pz_so d29_49 rfl)
theorem d29_52 : decode (pz_b 29) 52 = .ok (.aload_n 0, 1) := by decide +kernel
theorem q29_52 {dA : Nat → ClassId} {d : Nat} {st : List Value} {f : pz_F} {Q : Option Value → pz_F → Prop} {v1 : Value} {x : Nat} : pz_R dA d 29 52 [.ref x, v1] st f Q = pz_R dA d 29 53 [.ref x, v1] (.ref x :: st) f Q := pz_go (pz_so d29_52 rfl)
theorem d29_53 : decode (pz_b 29) 53 = .ok (.getfield 28, 3) := by decide +kernel
theorem q29_53 {dA : Nat → ClassId} {d : Nat} {st : List Value} {f : pz_F} {Q : Option Value → pz_F → Prop} {v0 v1 : Value} {a : Nat} : pz_R dA d 29 53 [v0, v1] (.ref a :: st) f Q = pz_o (pz_gf f a 0 3) (fun v => pz_R dA d 29 56 [v0, v1] (v :: st) f Q) := pz_gg d29_53 rfl
theorem d29_56 : decode (pz_b 29) 56 = .ok (.aload_n 1, 1) := by decide +kernel
theorem q29_56 {dA : Nat → ClassId} {d : Nat} {st : List Value} {f : pz_F} {Q : Option Value → pz_F → Prop} {v0 : Value} {x : Nat} : pz_R dA d 29 56 [v0, .ref x] st f Q = pz_R dA d 29 57 [v0, .ref x] (.ref x :: st) f Q := pz_go (pz_so d29_56 rfl)
theorem q29_56n {dA : Nat → ClassId} {d : Nat} {st : List Value} {f : pz_F} {Q : Option Value → pz_F → Prop} {v0 : Value} : pz_R dA d 29 56 [v0, .null] st f Q = pz_R dA d 29 57 [v0, .null] (.null :: st) f Q := pz_go (pz_so d29_56 rfl)
theorem d29_57 : decode (pz_b 29) 57 = .ok (.getfield 212, 3) := by decide +kernel
theorem q29_57 {dA : Nat → ClassId} {d : Nat} {st : List Value} {f : pz_F} {Q : Option Value → pz_F → Prop} {v0 v1 : Value} {a : Nat} : pz_R dA d 29 57 [v0, v1] (.ref a :: st) f Q = pz_o (pz_gf f a 5 2) (fun v => pz_R dA d 29 60 [v0, v1] (v :: st) f Q) := pz_gg d29_57 rfl
theorem d29_60 : decode (pz_b 29) 60 = .ok (.aaload, 1) := by decide +kernel
theorem q29_60 {dA : Nat → ClassId} {d : Nat} {st : List Value} {f : pz_F} {Q : Option Value → pz_F → Prop} {v0 v1 : Value} {i : Int32} {a : Nat} : pz_R dA d 29 60 [v0, v1] (.int i :: .ref a :: st) f Q = pz_o (pz_rl dA f a i) (fun v => pz_R dA d 29 61 [v0, v1] (v :: st) f Q) := pz_grl d29_60
theorem d29_61 : decode (pz_b 29) 61 = .ok (.aload_n 1, 1) := by decide +kernel
theorem q29_61 {dA : Nat → ClassId} {d : Nat} {st : List Value} {f : pz_F} {Q : Option Value → pz_F → Prop} {v0 : Value} {x : Nat} : pz_R dA d 29 61 [v0, .ref x] st f Q = pz_R dA d 29 62 [v0, .ref x] (.ref x :: st) f Q := pz_go (pz_so d29_61 rfl)
theorem q29_61n {dA : Nat → ClassId} {d : Nat} {st : List Value} {f : pz_F} {Q : Option Value → pz_F → Prop} {v0 : Value} : pz_R dA d 29 61 [v0, .null] st f Q = pz_R dA d 29 62 [v0, .null] (.null :: st) f Q := pz_go (pz_so d29_61 rfl)
theorem d29_62 : decode (pz_b 29) 62 = .ok (.aload_n 0, 1) := by decide +kernel
theorem q29_62 {dA : Nat → ClassId} {d : Nat} {st : List Value} {f : pz_F} {Q : Option Value → pz_F → Prop} {v1 : Value} {x : Nat} : pz_R dA d 29 62 [.ref x, v1] st f Q = pz_R dA d 29 63 [.ref x, v1] (.ref x :: st) f Q := pz_go (pz_so d29_62 rfl)
theorem d29_63 : decode (pz_b 29) 63 = .ok (.getfield 7, 3) := by decide +kernel
theorem q29_63 {dA : Nat → ClassId} {d : Nat} {st : List Value} {f : pz_F} {Q : Option Value → pz_F → Prop} {v0 v1 : Value} {a : Nat} : pz_R dA d 29 63 [v0, v1] (.ref a :: st) f Q = pz_o (pz_gf f a 0 0) (fun v => pz_R dA d 29 66 [v0, v1] (v :: st) f Q) := pz_gg d29_63 rfl
theorem d29_66 : decode (pz_b 29) 66 = .ok (.invokevirtual 228, 3) := by decide +kernel
theorem q29_66 {dA : Nat → ClassId} {d : Nat} {st : List Value} {f : pz_F} {Q : Option Value → pz_F → Prop} {v0 v1 : Value} {c0 : Nat} {c1 : Int32} {b : Nat} (hr : st.length ≤ 4) : pz_R dA (d + 1) 29 66 [v0, v1] (.int c1 :: .ref c0 :: .ref b :: st) f Q = pz_o (pz_gu f b 3) (fun _ => pz_C dA d 69 [.ref b, .ref c0, .int c1] f (fun r f' => pz_R dA (d + 1) 29 69 [v0, v1] (r.toList ++ st) f' Q)) := pz_gcv (As := [.ref c0, .int c1]) d29_66 rfl rfl rfl hr
theorem d29_69 : decode (pz_b 29) 69 = .ok (.goto 48, 3) := by decide +kernel
theorem q29_69 {dA : Nat → ClassId} {d : Nat} {st : List Value} {f : pz_F} {Q : Option Value → pz_F → Prop} {v0 v1 : Value} : pz_R dA d 29 69 [v0, v1] st f Q = pz_R dA d 29 117 [v0, v1] st f Q := pz_go (pz_so d29_69 rfl)
theorem d29_72 : decode (pz_b 29) 72 = .ok (.aload_n 0, 1) := by decide +kernel
theorem q29_72 {dA : Nat → ClassId} {d : Nat} {st : List Value} {f : pz_F} {Q : Option Value → pz_F → Prop} {v1 : Value} {x : Nat} : pz_R dA d 29 72 [.ref x, v1] st f Q = pz_R dA d 29 73 [.ref x, v1] (.ref x :: st) f Q := pz_go (pz_so d29_72 rfl)
theorem d29_73 : decode (pz_b 29) 73 = .ok (.getfield 28, 3) := by decide +kernel
theorem q29_73 {dA : Nat → ClassId} {d : Nat} {st : List Value} {f : pz_F} {Q : Option Value → pz_F → Prop} {v0 v1 : Value} {a : Nat} : pz_R dA d 29 73 [v0, v1] (.ref a :: st) f Q = pz_o (pz_gf f a 0 3) (fun v => pz_R dA d 29 76 [v0, v1] (v :: st) f Q) := pz_gg d29_73 rfl
theorem d29_76 : decode (pz_b 29) 76 = .ok (.aload_n 1, 1) := by decide +kernel
theorem q29_76 {dA : Nat → ClassId} {d : Nat} {st : List Value} {f : pz_F} {Q : Option Value → pz_F → Prop} {v0 : Value} {x : Nat} : pz_R dA d 29 76 [v0, .ref x] st f Q = pz_R dA d 29 77 [v0, .ref x] (.ref x :: st) f Q := pz_go (pz_so d29_76 rfl)
theorem q29_76n {dA : Nat → ClassId} {d : Nat} {st : List Value} {f : pz_F} {Q : Option Value → pz_F → Prop} {v0 : Value} : pz_R dA d 29 76 [v0, .null] st f Q = pz_R dA d 29 77 [v0, .null] (.null :: st) f Q := pz_go (pz_so d29_76 rfl)
theorem d29_77 : decode (pz_b 29) 77 = .ok (.getfield 212, 3) := by decide +kernel
theorem q29_77 {dA : Nat → ClassId} {d : Nat} {st : List Value} {f : pz_F} {Q : Option Value → pz_F → Prop} {v0 v1 : Value} {a : Nat} : pz_R dA d 29 77 [v0, v1] (.ref a :: st) f Q = pz_o (pz_gf f a 5 2) (fun v => pz_R dA d 29 80 [v0, v1] (v :: st) f Q) := pz_gg d29_77 rfl
theorem d29_80 : decode (pz_b 29) 80 = .ok (.aaload, 1) := by decide +kernel
theorem q29_80 {dA : Nat → ClassId} {d : Nat} {st : List Value} {f : pz_F} {Q : Option Value → pz_F → Prop} {v0 v1 : Value} {i : Int32} {a : Nat} : pz_R dA d 29 80 [v0, v1] (.int i :: .ref a :: st) f Q = pz_o (pz_rl dA f a i) (fun v => pz_R dA d 29 81 [v0, v1] (v :: st) f Q) := pz_grl d29_80
theorem d29_81 : decode (pz_b 29) 81 = .ok (.aload_n 1, 1) := by decide +kernel
theorem q29_81 {dA : Nat → ClassId} {d : Nat} {st : List Value} {f : pz_F} {Q : Option Value → pz_F → Prop} {v0 : Value} {x : Nat} : pz_R dA d 29 81 [v0, .ref x] st f Q = pz_R dA d 29 82 [v0, .ref x] (.ref x :: st) f Q := pz_go (pz_so d29_81 rfl)
theorem q29_81n {dA : Nat → ClassId} {d : Nat} {st : List Value} {f : pz_F} {Q : Option Value → pz_F → Prop} {v0 : Value} : pz_R dA d 29 81 [v0, .null] st f Q = pz_R dA d 29 82 [v0, .null] (.null :: st) f Q := pz_go (pz_so d29_81 rfl)
theorem d29_82 : decode (pz_b 29) 82 = .ok (.invokevirtual 232, 3) := by decide +kernel
theorem q29_82 {dA : Nat → ClassId} {d : Nat} {st : List Value} {f : pz_F} {Q : Option Value → pz_F → Prop} {v0 v1 : Value} {c0 : Nat} {b : Nat} (hr : st.length ≤ 4) : pz_R dA (d + 1) 29 82 [v0, v1] (.ref c0 :: .ref b :: st) f Q = pz_o (pz_gu f b 3) (fun _ => pz_C dA d 70 [.ref b, .ref c0] f (fun r f' => pz_R dA (d + 1) 29 85 [v0, v1] (r.toList ++ st) f' Q)) := pz_gcv (As := [.ref c0]) d29_82 rfl rfl rfl hr
theorem d29_85 : decode (pz_b 29) 85 = .ok (.goto 32, 3) := by decide +kernel
theorem q29_85 {dA : Nat → ClassId} {d : Nat} {st : List Value} {f : pz_F} {Q : Option Value → pz_F → Prop} {v0 v1 : Value} : pz_R dA d 29 85 [v0, v1] st f Q = pz_R dA d 29 117 [v0, v1] st f Q := pz_go (pz_so d29_85 rfl)
theorem d29_88 : decode (pz_b 29) 88 = .ok (.aload_n 0, 1) := by decide +kernel
theorem q29_88 {dA : Nat → ClassId} {d : Nat} {st : List Value} {f : pz_F} {Q : Option Value → pz_F → Prop} {v1 : Value} {x : Nat} : pz_R dA d 29 88 [.ref x, v1] st f Q = pz_R dA d 29 89 [.ref x, v1] (.ref x :: st) f Q := pz_go (pz_so d29_88 rfl)
theorem d29_89 : decode (pz_b 29) 89 = .ok (.aload_n 1, 1) := by decide +kernel
theorem q29_89 {dA : Nat → ClassId} {d : Nat} {st : List Value} {f : pz_F} {Q : Option Value → pz_F → Prop} {v0 : Value} {x : Nat} : pz_R dA d 29 89 [v0, .ref x] st f Q = pz_R dA d 29 90 [v0, .ref x] (.ref x :: st) f Q := pz_go (pz_so d29_89 rfl)
theorem q29_89n {dA : Nat → ClassId} {d : Nat} {st : List Value} {f : pz_F} {Q : Option Value → pz_F → Prop} {v0 : Value} : pz_R dA d 29 89 [v0, .null] st f Q = pz_R dA d 29 90 [v0, .null] (.null :: st) f Q := pz_go (pz_so d29_89 rfl)
theorem d29_90 : decode (pz_b 29) 90 = .ok (.invokevirtual 235, 3) := by decide +kernel
theorem q29_90 {dA : Nat → ClassId} {d : Nat} {st : List Value} {f : pz_F} {Q : Option Value → pz_F → Prop} {v0 v1 : Value} {c0 : Nat} {b : Nat} (hr : st.length ≤ 4) : pz_R dA (d + 1) 29 90 [v0, v1] (.ref c0 :: .ref b :: st) f Q = pz_o (pz_gu f b 0) (fun _ => pz_C dA d 31 [.ref b, .ref c0] f (fun r f' => pz_R dA (d + 1) 29 93 [v0, v1] (r.toList ++ st) f' Q)) := pz_gcv (As := [.ref c0]) d29_90 rfl rfl rfl hr
theorem d29_93 : decode (pz_b 29) 93 = .ok (.goto 24, 3) := by decide +kernel
theorem q29_93 {dA : Nat → ClassId} {d : Nat} {st : List Value} {f : pz_F} {Q : Option Value → pz_F → Prop} {v0 v1 : Value} : pz_R dA d 29 93 [v0, v1] st f Q = pz_R dA d 29 117 [v0, v1] st f Q := pz_go (pz_so d29_93 rfl)
theorem d29_96 : decode (pz_b 29) 96 = .ok (.aload_n 0, 1) := by decide +kernel
theorem q29_96 {dA : Nat → ClassId} {d : Nat} {st : List Value} {f : pz_F} {Q : Option Value → pz_F → Prop} {v1 : Value} {x : Nat} : pz_R dA d 29 96 [.ref x, v1] st f Q = pz_R dA d 29 97 [.ref x, v1] (.ref x :: st) f Q := pz_go (pz_so d29_96 rfl)
theorem d29_97 : decode (pz_b 29) 97 = .ok (.aload_n 1, 1) := by decide +kernel
theorem q29_97 {dA : Nat → ClassId} {d : Nat} {st : List Value} {f : pz_F} {Q : Option Value → pz_F → Prop} {v0 : Value} {x : Nat} : pz_R dA d 29 97 [v0, .ref x] st f Q = pz_R dA d 29 98 [v0, .ref x] (.ref x :: st) f Q := pz_go (pz_so d29_97 rfl)
theorem q29_97n {dA : Nat → ClassId} {d : Nat} {st : List Value} {f : pz_F} {Q : Option Value → pz_F → Prop} {v0 : Value} : pz_R dA d 29 97 [v0, .null] st f Q = pz_R dA d 29 98 [v0, .null] (.null :: st) f Q := pz_go (pz_so d29_97 rfl)
theorem d29_98 : decode (pz_b 29) 98 = .ok (.invokevirtual 238, 3) := by decide +kernel
theorem q29_98 {dA : Nat → ClassId} {d : Nat} {st : List Value} {f : pz_F} {Q : Option Value → pz_F → Prop} {v0 v1 : Value} {c0 : Nat} {b : Nat} (hr : st.length ≤ 4) : pz_R dA (d + 1) 29 98 [v0, v1] (.ref c0 :: .ref b :: st) f Q = pz_o (pz_gu f b 0) (fun _ => pz_C dA d 32 [.ref b, .ref c0] f (fun r f' => pz_R dA (d + 1) 29 101 [v0, v1] (r.toList ++ st) f' Q)) := pz_gcv (As := [.ref c0]) d29_98 rfl rfl rfl hr
theorem d29_101 : decode (pz_b 29) 101 = .ok (.goto 16, 3) := by decide +kernel
theorem q29_101 {dA : Nat → ClassId} {d : Nat} {st : List Value} {f : pz_F} {Q : Option Value → pz_F → Prop} {v0 v1 : Value} : pz_R dA d 29 101 [v0, v1] st f Q = pz_R dA d 29 117 [v0, v1] st f Q := pz_go (pz_so d29_101 rfl)
theorem d29_104 : decode (pz_b 29) 104 = .ok (.aload_n 0, 1) := by decide +kernel
theorem q29_104 {dA : Nat → ClassId} {d : Nat} {st : List Value} {f : pz_F} {Q : Option Value → pz_F → Prop} {v1 : Value} {x : Nat} : pz_R dA d 29 104 [.ref x, v1] st f Q = pz_R dA d 29 105 [.ref x, v1] (.ref x :: st) f Q := pz_go (pz_so d29_104 rfl)
theorem d29_105 : decode (pz_b 29) 105 = .ok (.aload_n 1, 1) := by decide +kernel
theorem q29_105 {dA : Nat → ClassId} {d : Nat} {st : List Value} {f : pz_F} {Q : Option Value → pz_F → Prop} {v0 : Value} {x : Nat} : pz_R dA d 29 105 [v0, .ref x] st f Q = pz_R dA d 29 106 [v0, .ref x] (.ref x :: st) f Q := pz_go (pz_so d29_105 rfl)
theorem q29_105n {dA : Nat → ClassId} {d : Nat} {st : List Value} {f : pz_F} {Q : Option Value → pz_F → Prop} {v0 : Value} : pz_R dA d 29 105 [v0, .null] st f Q = pz_R dA d 29 106 [v0, .null] (.null :: st) f Q := pz_go (pz_so d29_105 rfl)
theorem d29_106 : decode (pz_b 29) 106 = .ok (.invokevirtual 241, 3) := by decide +kernel
theorem q29_106 {dA : Nat → ClassId} {d : Nat} {st : List Value} {f : pz_F} {Q : Option Value → pz_F → Prop} {v0 v1 : Value} {c0 : Nat} {b : Nat} (hr : st.length ≤ 4) : pz_R dA (d + 1) 29 106 [v0, v1] (.ref c0 :: .ref b :: st) f Q = pz_o (pz_gu f b 0) (fun _ => pz_C dA d 33 [.ref b, .ref c0] f (fun r f' => pz_R dA (d + 1) 29 109 [v0, v1] (r.toList ++ st) f' Q)) := pz_gcv (As := [.ref c0]) d29_106 rfl rfl rfl hr
theorem d29_109 : decode (pz_b 29) 109 = .ok (.goto 8, 3) := by decide +kernel
theorem q29_109 {dA : Nat → ClassId} {d : Nat} {st : List Value} {f : pz_F} {Q : Option Value → pz_F → Prop} {v0 v1 : Value} : pz_R dA d 29 109 [v0, v1] st f Q = pz_R dA d 29 117 [v0, v1] st f Q := pz_go (pz_so d29_109 rfl)
theorem d29_112 : decode (pz_b 29) 112 = .ok (.aload_n 0, 1) := by decide +kernel
theorem q29_112 {dA : Nat → ClassId} {d : Nat} {st : List Value} {f : pz_F} {Q : Option Value → pz_F → Prop} {v1 : Value} {x : Nat} : pz_R dA d 29 112 [.ref x, v1] st f Q = pz_R dA d 29 113 [.ref x, v1] (.ref x :: st) f Q := pz_go (pz_so d29_112 rfl)
theorem d29_113 : decode (pz_b 29) 113 = .ok (.aload_n 1, 1) := by decide +kernel
theorem q29_113 {dA : Nat → ClassId} {d : Nat} {st : List Value} {f : pz_F} {Q : Option Value → pz_F → Prop} {v0 : Value} {x : Nat} : pz_R dA d 29 113 [v0, .ref x] st f Q = pz_R dA d 29 114 [v0, .ref x] (.ref x :: st) f Q := pz_go (pz_so d29_113 rfl)
theorem q29_113n {dA : Nat → ClassId} {d : Nat} {st : List Value} {f : pz_F} {Q : Option Value → pz_F → Prop} {v0 : Value} : pz_R dA d 29 113 [v0, .null] st f Q = pz_R dA d 29 114 [v0, .null] (.null :: st) f Q := pz_go (pz_so d29_113 rfl)
theorem d29_114 : decode (pz_b 29) 114 = .ok (.invokevirtual 244, 3) := by decide +kernel
theorem q29_114 {dA : Nat → ClassId} {d : Nat} {st : List Value} {f : pz_F} {Q : Option Value → pz_F → Prop} {v0 v1 : Value} {c0 : Nat} {b : Nat} (hr : st.length ≤ 4) : pz_R dA (d + 1) 29 114 [v0, v1] (.ref c0 :: .ref b :: st) f Q = pz_o (pz_gu f b 0) (fun _ => pz_C dA d 34 [.ref b, .ref c0] f (fun r f' => pz_R dA (d + 1) 29 117 [v0, v1] (r.toList ++ st) f' Q)) := pz_gcv (As := [.ref c0]) d29_114 rfl rfl rfl hr
theorem d29_117 : decode (pz_b 29) 117 = .ok (.return_, 1) := by decide +kernel
theorem q29_117 {dA : Nat → ClassId} {d : Nat} {f : pz_F} {Q : Option Value → pz_F → Prop} {v0 v1 : Value} : pz_R dA d 29 117 [v0, v1] [] f Q = Q none f := pz_gr (pz_so d29_117 rfl)
/-! P_arriveAsk (LLeasePair$Message;)V -/
theorem e30 {dA : Nat → ClassId} {d : Nat} {f : pz_F} {Q : Option Value → pz_F → Prop} {a0 : Nat} {a1 : Nat} : pz_C dA d 30 [.ref a0, .ref a1] f Q = pz_R dA d 30 0 [.ref a0, .ref a1, .retAddr 0, .retAddr 0, .retAddr 0] [] f Q := rfl
theorem d30_0 : decode (pz_b 30) 0 = .ok (.aload_n 0, 1) := by decide +kernel
theorem q30_0 {dA : Nat → ClassId} {d : Nat} {st : List Value} {f : pz_F} {Q : Option Value → pz_F → Prop} {v1 v2 v3 v4 : Value} {x : Nat} : pz_R dA d 30 0 [.ref x, v1, v2, v3, v4] st f Q = pz_R dA d 30 1 [.ref x, v1, v2, v3, v4] (.ref x :: st) f Q := pz_go (pz_so d30_0 rfl)
theorem d30_1 : decode (pz_b 30) 1 = .ok (.getfield 19, 3) := by decide +kernel
theorem q30_1 {dA : Nat → ClassId} {d : Nat} {st : List Value} {f : pz_F} {Q : Option Value → pz_F → Prop} {v0 v1 v2 v3 v4 : Value} {a : Nat} : pz_R dA d 30 1 [v0, v1, v2, v3, v4] (.ref a :: st) f Q = pz_o (pz_gf f a 0 2) (fun v => pz_R dA d 30 4 [v0, v1, v2, v3, v4] (v :: st) f Q) := pz_gg d30_1 rfl
theorem d30_4 : decode (pz_b 30) 4 = .ok (.aload_n 1, 1) := by decide +kernel
theorem q30_4 {dA : Nat → ClassId} {d : Nat} {st : List Value} {f : pz_F} {Q : Option Value → pz_F → Prop} {v0 v2 v3 v4 : Value} {x : Nat} : pz_R dA d 30 4 [v0, .ref x, v2, v3, v4] st f Q = pz_R dA d 30 5 [v0, .ref x, v2, v3, v4] (.ref x :: st) f Q := pz_go (pz_so d30_4 rfl)
theorem q30_4n {dA : Nat → ClassId} {d : Nat} {st : List Value} {f : pz_F} {Q : Option Value → pz_F → Prop} {v0 v2 v3 v4 : Value} : pz_R dA d 30 4 [v0, .null, v2, v3, v4] st f Q = pz_R dA d 30 5 [v0, .null, v2, v3, v4] (.null :: st) f Q := pz_go (pz_so d30_4 rfl)
theorem d30_5 : decode (pz_b 30) 5 = .ok (.getfield 212, 3) := by decide +kernel
theorem q30_5 {dA : Nat → ClassId} {d : Nat} {st : List Value} {f : pz_F} {Q : Option Value → pz_F → Prop} {v0 v1 v2 v3 v4 : Value} {a : Nat} : pz_R dA d 30 5 [v0, v1, v2, v3, v4] (.ref a :: st) f Q = pz_o (pz_gf f a 5 2) (fun v => pz_R dA d 30 8 [v0, v1, v2, v3, v4] (v :: st) f Q) := pz_gg d30_5 rfl
theorem d30_8 : decode (pz_b 30) 8 = .ok (.aaload, 1) := by decide +kernel
theorem q30_8 {dA : Nat → ClassId} {d : Nat} {st : List Value} {f : pz_F} {Q : Option Value → pz_F → Prop} {v0 v1 v2 v3 v4 : Value} {i : Int32} {a : Nat} : pz_R dA d 30 8 [v0, v1, v2, v3, v4] (.int i :: .ref a :: st) f Q = pz_o (pz_rl dA f a i) (fun v => pz_R dA d 30 9 [v0, v1, v2, v3, v4] (v :: st) f Q) := pz_grl d30_8
theorem d30_9 : decode (pz_b 30) 9 = .ok (.astore_n 2, 1) := by decide +kernel
theorem q30_9 {dA : Nat → ClassId} {d : Nat} {st : List Value} {f : pz_F} {Q : Option Value → pz_F → Prop} {v0 v1 v2 v3 v4 : Value} {x : Nat} : pz_R dA d 30 9 [v0, v1, v2, v3, v4] (.ref x :: st) f Q = pz_R dA d 30 10 [v0, v1, .ref x, v3, v4] st f Q := pz_go (pz_so d30_9 rfl)
theorem q30_9n {dA : Nat → ClassId} {d : Nat} {st : List Value} {f : pz_F} {Q : Option Value → pz_F → Prop} {v0 v1 v2 v3 v4 : Value} : pz_R dA d 30 9 [v0, v1, v2, v3, v4] (.null :: st) f Q = pz_R dA d 30 10 [v0, v1, .null, v3, v4] st f Q := pz_go (pz_so d30_9 rfl)
theorem d30_10 : decode (pz_b 30) 10 = .ok (.aload_n 2, 1) := by decide +kernel
theorem q30_10 {dA : Nat → ClassId} {d : Nat} {st : List Value} {f : pz_F} {Q : Option Value → pz_F → Prop} {v0 v1 v3 v4 : Value} {x : Nat} : pz_R dA d 30 10 [v0, v1, .ref x, v3, v4] st f Q = pz_R dA d 30 11 [v0, v1, .ref x, v3, v4] (.ref x :: st) f Q := pz_go (pz_so d30_10 rfl)
theorem q30_10n {dA : Nat → ClassId} {d : Nat} {st : List Value} {f : pz_F} {Q : Option Value → pz_F → Prop} {v0 v1 v3 v4 : Value} : pz_R dA d 30 10 [v0, v1, .null, v3, v4] st f Q = pz_R dA d 30 11 [v0, v1, .null, v3, v4] (.null :: st) f Q := pz_go (pz_so d30_10 rfl)
theorem d30_11 : decode (pz_b 30) 11 = .ok (.invokevirtual 151, 3) := by decide +kernel
theorem q30_11 {dA : Nat → ClassId} {d : Nat} {st : List Value} {f : pz_F} {Q : Option Value → pz_F → Prop} {v0 v1 v2 v3 v4 : Value} {b : Nat} (hr : st.length ≤ 4) : pz_R dA (d + 1) 30 11 [v0, v1, v2, v3, v4] (.ref b :: st) f Q = pz_o (pz_gu f b 1) (fun _ => pz_C dA d 36 [.ref b] f (fun r f' => pz_R dA (d + 1) 30 14 [v0, v1, v2, v3, v4] (r.toList ++ st) f' Q)) := pz_gcv (As := []) d30_11 rfl rfl rfl hr
theorem d30_14 : decode (pz_b 30) 14 = .ok (.ifCond .ne 4, 3) := by decide +kernel
theorem q30_14 {dA : Nat → ClassId} {d : Nat} {st : List Value} {f : pz_F} {Q : Option Value → pz_F → Prop} {v0 v1 v2 v3 v4 : Value} {x : Int32} : pz_R dA d 30 14 [v0, v1, v2, v3, v4] (.int x :: st) f Q = (if x = 0 then pz_R dA d 30 17 [v0, v1, v2, v3, v4] st f Q else pz_R dA d 30 18 [v0, v1, v2, v3, v4] st f Q) := pz_gj1 .ne d30_14 rfl
theorem d30_17 : decode (pz_b 30) 17 = .ok (.return_, 1) := by decide +kernel
theorem q30_17 {dA : Nat → ClassId} {d : Nat} {f : pz_F} {Q : Option Value → pz_F → Prop} {v0 v1 v2 v3 v4 : Value} : pz_R dA d 30 17 [v0, v1, v2, v3, v4] [] f Q = Q none f := pz_gr (pz_so d30_17 rfl)
theorem d30_18 : decode (pz_b 30) 18 = .ok (.aload_n 2, 1) := by decide +kernel
theorem q30_18 {dA : Nat → ClassId} {d : Nat} {st : List Value} {f : pz_F} {Q : Option Value → pz_F → Prop} {v0 v1 v3 v4 : Value} {x : Nat} : pz_R dA d 30 18 [v0, v1, .ref x, v3, v4] st f Q = pz_R dA d 30 19 [v0, v1, .ref x, v3, v4] (.ref x :: st) f Q := pz_go (pz_so d30_18 rfl)
theorem q30_18n {dA : Nat → ClassId} {d : Nat} {st : List Value} {f : pz_F} {Q : Option Value → pz_F → Prop} {v0 v1 v3 v4 : Value} : pz_R dA d 30 18 [v0, v1, .null, v3, v4] st f Q = pz_R dA d 30 19 [v0, v1, .null, v3, v4] (.null :: st) f Q := pz_go (pz_so d30_18 rfl)
theorem d30_19 : decode (pz_b 30) 19 = .ok (.aload_n 1, 1) := by decide +kernel
theorem q30_19 {dA : Nat → ClassId} {d : Nat} {st : List Value} {f : pz_F} {Q : Option Value → pz_F → Prop} {v0 v2 v3 v4 : Value} {x : Nat} : pz_R dA d 30 19 [v0, .ref x, v2, v3, v4] st f Q = pz_R dA d 30 20 [v0, .ref x, v2, v3, v4] (.ref x :: st) f Q := pz_go (pz_so d30_19 rfl)
theorem q30_19n {dA : Nat → ClassId} {d : Nat} {st : List Value} {f : pz_F} {Q : Option Value → pz_F → Prop} {v0 v2 v3 v4 : Value} : pz_R dA d 30 19 [v0, .null, v2, v3, v4] st f Q = pz_R dA d 30 20 [v0, .null, v2, v3, v4] (.null :: st) f Q := pz_go (pz_so d30_19 rfl)
theorem d30_20 : decode (pz_b 30) 20 = .ok (.getfield 215, 3) := by decide +kernel
theorem q30_20 {dA : Nat → ClassId} {d : Nat} {st : List Value} {f : pz_F} {Q : Option Value → pz_F → Prop} {v0 v1 v2 v3 v4 : Value} {a : Nat} : pz_R dA d 30 20 [v0, v1, v2, v3, v4] (.ref a :: st) f Q = pz_o (pz_gf f a 5 1) (fun v => pz_R dA d 30 23 [v0, v1, v2, v3, v4] (v :: st) f Q) := pz_gg d30_20 rfl
theorem d30_23 : decode (pz_b 30) 23 = .ok (.aload_n 0, 1) := by decide +kernel
theorem q30_23 {dA : Nat → ClassId} {d : Nat} {st : List Value} {f : pz_F} {Q : Option Value → pz_F → Prop} {v1 v2 v3 v4 : Value} {x : Nat} : pz_R dA d 30 23 [.ref x, v1, v2, v3, v4] st f Q = pz_R dA d 30 24 [.ref x, v1, v2, v3, v4] (.ref x :: st) f Q := pz_go (pz_so d30_23 rfl)
theorem d30_24 : decode (pz_b 30) 24 = .ok (.getfield 7, 3) := by decide +kernel
theorem q30_24 {dA : Nat → ClassId} {d : Nat} {st : List Value} {f : pz_F} {Q : Option Value → pz_F → Prop} {v0 v1 v2 v3 v4 : Value} {a : Nat} : pz_R dA d 30 24 [v0, v1, v2, v3, v4] (.ref a :: st) f Q = pz_o (pz_gf f a 0 0) (fun v => pz_R dA d 30 27 [v0, v1, v2, v3, v4] (v :: st) f Q) := pz_gg d30_24 rfl
theorem d30_27 : decode (pz_b 30) 27 = .ok (.invokevirtual 247, 3) := by decide +kernel
theorem q30_27 {dA : Nat → ClassId} {d : Nat} {st : List Value} {f : pz_F} {Q : Option Value → pz_F → Prop} {v0 v1 v2 v3 v4 : Value} {c0 : Int32} {c1 : Int32} {b : Nat} (hr : st.length ≤ 4) : pz_R dA (d + 1) 30 27 [v0, v1, v2, v3, v4] (.int c1 :: .int c0 :: .ref b :: st) f Q = pz_o (pz_gu f b 1) (fun _ => pz_C dA d 44 [.ref b, .int c0, .int c1] f (fun r f' => pz_R dA (d + 1) 30 30 [v0, v1, v2, v3, v4] (r.toList ++ st) f' Q)) := pz_gcv (As := [.int c0, .int c1]) d30_27 rfl rfl rfl hr
theorem d30_30 : decode (pz_b 30) 30 = .ok (.istore_n 3, 1) := by decide +kernel
theorem q30_30 {dA : Nat → ClassId} {d : Nat} {st : List Value} {f : pz_F} {Q : Option Value → pz_F → Prop} {v0 v1 v2 v3 v4 : Value} {x : Int32} : pz_R dA d 30 30 [v0, v1, v2, v3, v4] (.int x :: st) f Q = pz_R dA d 30 31 [v0, v1, v2, .int x, v4] st f Q := pz_go (pz_so d30_30 rfl)
theorem d30_31 : decode (pz_b 30) 31 = .ok (.iload_n 3, 1) := by decide +kernel
theorem q30_31 {dA : Nat → ClassId} {d : Nat} {st : List Value} {f : pz_F} {Q : Option Value → pz_F → Prop} {v0 v1 v2 v4 : Value} {x : Int32} : pz_R dA d 30 31 [v0, v1, v2, .int x, v4] st f Q = pz_R dA d 30 32 [v0, v1, v2, .int x, v4] (.int x :: st) f Q := pz_go (pz_so d30_31 rfl)
theorem d30_32 : decode (pz_b 30) 32 = .ok (.iconst (-1), 1) := by decide +kernel
theorem q30_32 {dA : Nat → ClassId} {d : Nat} {st : List Value} {f : pz_F} {Q : Option Value → pz_F → Prop} {v0 v1 v2 v3 v4 : Value} : pz_R dA d 30 32 [v0, v1, v2, v3, v4] st f Q = pz_R dA d 30 33 [v0, v1, v2, v3, v4] (.int (-1) :: st) f Q := pz_go (pz_so d30_32 rfl)
theorem d30_33 : decode (pz_b 30) 33 = .ok (.if_icmp .ne 21, 3) := by decide +kernel
theorem q30_33 {dA : Nat → ClassId} {d : Nat} {st : List Value} {f : pz_F} {Q : Option Value → pz_F → Prop} {v0 v1 v2 v3 v4 : Value} {x y : Int32} : pz_R dA d 30 33 [v0, v1, v2, v3, v4] (.int y :: .int x :: st) f Q = (if x = y then pz_R dA d 30 36 [v0, v1, v2, v3, v4] st f Q else pz_R dA d 30 54 [v0, v1, v2, v3, v4] st f Q) := pz_gjn .ne d30_33 rfl
theorem d30_36 : decode (pz_b 30) 36 = .ok (.aload_n 0, 1) := by decide +kernel
theorem q30_36 {dA : Nat → ClassId} {d : Nat} {st : List Value} {f : pz_F} {Q : Option Value → pz_F → Prop} {v1 v2 v3 v4 : Value} {x : Nat} : pz_R dA d 30 36 [.ref x, v1, v2, v3, v4] st f Q = pz_R dA d 30 37 [.ref x, v1, v2, v3, v4] (.ref x :: st) f Q := pz_go (pz_so d30_36 rfl)
theorem d30_37 : decode (pz_b 30) 37 = .ok (.iconst 2, 1) := by decide +kernel
theorem q30_37 {dA : Nat → ClassId} {d : Nat} {st : List Value} {f : pz_F} {Q : Option Value → pz_F → Prop} {v0 v1 v2 v3 v4 : Value} : pz_R dA d 30 37 [v0, v1, v2, v3, v4] st f Q = pz_R dA d 30 38 [v0, v1, v2, v3, v4] (.int 2 :: st) f Q := pz_go (pz_so d30_37 rfl)
theorem d30_38 : decode (pz_b 30) 38 = .ok (.aload_n 1, 1) := by decide +kernel
theorem q30_38 {dA : Nat → ClassId} {d : Nat} {st : List Value} {f : pz_F} {Q : Option Value → pz_F → Prop} {v0 v2 v3 v4 : Value} {x : Nat} : pz_R dA d 30 38 [v0, .ref x, v2, v3, v4] st f Q = pz_R dA d 30 39 [v0, .ref x, v2, v3, v4] (.ref x :: st) f Q := pz_go (pz_so d30_38 rfl)
theorem q30_38n {dA : Nat → ClassId} {d : Nat} {st : List Value} {f : pz_F} {Q : Option Value → pz_F → Prop} {v0 v2 v3 v4 : Value} : pz_R dA d 30 38 [v0, .null, v2, v3, v4] st f Q = pz_R dA d 30 39 [v0, .null, v2, v3, v4] (.null :: st) f Q := pz_go (pz_so d30_38 rfl)
theorem d30_39 : decode (pz_b 30) 39 = .ok (.getfield 212, 3) := by decide +kernel
theorem q30_39 {dA : Nat → ClassId} {d : Nat} {st : List Value} {f : pz_F} {Q : Option Value → pz_F → Prop} {v0 v1 v2 v3 v4 : Value} {a : Nat} : pz_R dA d 30 39 [v0, v1, v2, v3, v4] (.ref a :: st) f Q = pz_o (pz_gf f a 5 2) (fun v => pz_R dA d 30 42 [v0, v1, v2, v3, v4] (v :: st) f Q) := pz_gg d30_39 rfl
theorem d30_42 : decode (pz_b 30) 42 = .ok (.aload_n 1, 1) := by decide +kernel
theorem q30_42 {dA : Nat → ClassId} {d : Nat} {st : List Value} {f : pz_F} {Q : Option Value → pz_F → Prop} {v0 v2 v3 v4 : Value} {x : Nat} : pz_R dA d 30 42 [v0, .ref x, v2, v3, v4] st f Q = pz_R dA d 30 43 [v0, .ref x, v2, v3, v4] (.ref x :: st) f Q := pz_go (pz_so d30_42 rfl)
theorem q30_42n {dA : Nat → ClassId} {d : Nat} {st : List Value} {f : pz_F} {Q : Option Value → pz_F → Prop} {v0 v2 v3 v4 : Value} : pz_R dA d 30 42 [v0, .null, v2, v3, v4] st f Q = pz_R dA d 30 43 [v0, .null, v2, v3, v4] (.null :: st) f Q := pz_go (pz_so d30_42 rfl)
theorem d30_43 : decode (pz_b 30) 43 = .ok (.getfield 215, 3) := by decide +kernel
theorem q30_43 {dA : Nat → ClassId} {d : Nat} {st : List Value} {f : pz_F} {Q : Option Value → pz_F → Prop} {v0 v1 v2 v3 v4 : Value} {a : Nat} : pz_R dA d 30 43 [v0, v1, v2, v3, v4] (.ref a :: st) f Q = pz_o (pz_gf f a 5 1) (fun v => pz_R dA d 30 46 [v0, v1, v2, v3, v4] (v :: st) f Q) := pz_gg d30_43 rfl
theorem d30_46 : decode (pz_b 30) 46 = .ok (.aload_n 1, 1) := by decide +kernel
theorem q30_46 {dA : Nat → ClassId} {d : Nat} {st : List Value} {f : pz_F} {Q : Option Value → pz_F → Prop} {v0 v2 v3 v4 : Value} {x : Nat} : pz_R dA d 30 46 [v0, .ref x, v2, v3, v4] st f Q = pz_R dA d 30 47 [v0, .ref x, v2, v3, v4] (.ref x :: st) f Q := pz_go (pz_so d30_46 rfl)
theorem q30_46n {dA : Nat → ClassId} {d : Nat} {st : List Value} {f : pz_F} {Q : Option Value → pz_F → Prop} {v0 v2 v3 v4 : Value} : pz_R dA d 30 46 [v0, .null, v2, v3, v4] st f Q = pz_R dA d 30 47 [v0, .null, v2, v3, v4] (.null :: st) f Q := pz_go (pz_so d30_46 rfl)
theorem d30_47 : decode (pz_b 30) 47 = .ok (.getfield 211, 3) := by decide +kernel
theorem q30_47 {dA : Nat → ClassId} {d : Nat} {st : List Value} {f : pz_F} {Q : Option Value → pz_F → Prop} {v0 v1 v2 v3 v4 : Value} {a : Nat} : pz_R dA d 30 47 [v0, v1, v2, v3, v4] (.ref a :: st) f Q = pz_o (pz_gf f a 5 4) (fun v => pz_R dA d 30 50 [v0, v1, v2, v3, v4] (v :: st) f Q) := pz_gg d30_47 rfl
theorem d30_50 : decode (pz_b 30) 50 = .ok (.invokevirtual 69, 3) := by decide +kernel
theorem q30_50 {dA : Nat → ClassId} {d : Nat} {st : List Value} {f : pz_F} {Q : Option Value → pz_F → Prop} {v0 v1 v2 v3 v4 : Value} {c0 : Int32} {c1 : Int32} {c2 : Int32} {c3 : Int32} {b : Nat} (hr : st.length ≤ 4) : pz_R dA (d + 1) 30 50 [v0, v1, v2, v3, v4] (.int c3 :: .int c2 :: .int c1 :: .int c0 :: .ref b :: st) f Q = pz_o (pz_gu f b 0) (fun _ => pz_C dA d 25 [.ref b, .int c0, .int c1, .int c2, .int c3] f (fun r f' => pz_R dA (d + 1) 30 53 [v0, v1, v2, v3, v4] (r.toList ++ st) f' Q)) := pz_gcv (As := [.int c0, .int c1, .int c2, .int c3]) d30_50 rfl rfl rfl hr
theorem d30_53 : decode (pz_b 30) 53 = .ok (.return_, 1) := by decide +kernel
theorem q30_53 {dA : Nat → ClassId} {d : Nat} {f : pz_F} {Q : Option Value → pz_F → Prop} {v0 v1 v2 v3 v4 : Value} : pz_R dA d 30 53 [v0, v1, v2, v3, v4] [] f Q = Q none f := pz_gr (pz_so d30_53 rfl)
theorem d30_54 : decode (pz_b 30) 54 = .ok (.aload_n 2, 1) := by decide +kernel
theorem q30_54 {dA : Nat → ClassId} {d : Nat} {st : List Value} {f : pz_F} {Q : Option Value → pz_F → Prop} {v0 v1 v3 v4 : Value} {x : Nat} : pz_R dA d 30 54 [v0, v1, .ref x, v3, v4] st f Q = pz_R dA d 30 55 [v0, v1, .ref x, v3, v4] (.ref x :: st) f Q := pz_go (pz_so d30_54 rfl)
theorem q30_54n {dA : Nat → ClassId} {d : Nat} {st : List Value} {f : pz_F} {Q : Option Value → pz_F → Prop} {v0 v1 v3 v4 : Value} : pz_R dA d 30 54 [v0, v1, .null, v3, v4] st f Q = pz_R dA d 30 55 [v0, v1, .null, v3, v4] (.null :: st) f Q := pz_go (pz_so d30_54 rfl)
theorem d30_55 : decode (pz_b 30) 55 = .ok (.getfield 121, 3) := by decide +kernel
theorem q30_55 {dA : Nat → ClassId} {d : Nat} {st : List Value} {f : pz_F} {Q : Option Value → pz_F → Prop} {v0 v1 v2 v3 v4 : Value} {a : Nat} : pz_R dA d 30 55 [v0, v1, v2, v3, v4] (.ref a :: st) f Q = pz_o (pz_gf f a 1 1) (fun v => pz_R dA d 30 58 [v0, v1, v2, v3, v4] (v :: st) f Q) := pz_gg d30_55 rfl
theorem d30_58 : decode (pz_b 30) 58 = .ok (.iload_n 3, 1) := by decide +kernel
theorem q30_58 {dA : Nat → ClassId} {d : Nat} {st : List Value} {f : pz_F} {Q : Option Value → pz_F → Prop} {v0 v1 v2 v4 : Value} {x : Int32} : pz_R dA d 30 58 [v0, v1, v2, .int x, v4] st f Q = pz_R dA d 30 59 [v0, v1, v2, .int x, v4] (.int x :: st) f Q := pz_go (pz_so d30_58 rfl)
theorem d30_59 : decode (pz_b 30) 59 = .ok (.aaload, 1) := by decide +kernel
theorem q30_59 {dA : Nat → ClassId} {d : Nat} {st : List Value} {f : pz_F} {Q : Option Value → pz_F → Prop} {v0 v1 v2 v3 v4 : Value} {i : Int32} {a : Nat} : pz_R dA d 30 59 [v0, v1, v2, v3, v4] (.int i :: .ref a :: st) f Q = pz_o (pz_rl dA f a i) (fun v => pz_R dA d 30 60 [v0, v1, v2, v3, v4] (v :: st) f Q) := pz_grl d30_59
theorem d30_60 : decode (pz_b 30) 60 = .ok (.astore 4, 2) := by decide +kernel
theorem q30_60 {dA : Nat → ClassId} {d : Nat} {st : List Value} {f : pz_F} {Q : Option Value → pz_F → Prop} {v0 v1 v2 v3 v4 : Value} {x : Nat} : pz_R dA d 30 60 [v0, v1, v2, v3, v4] (.ref x :: st) f Q = pz_R dA d 30 62 [v0, v1, v2, v3, .ref x] st f Q := pz_go (pz_so d30_60 rfl)
theorem q30_60n {dA : Nat → ClassId} {d : Nat} {st : List Value} {f : pz_F} {Q : Option Value → pz_F → Prop} {v0 v1 v2 v3 v4 : Value} : pz_R dA d 30 60 [v0, v1, v2, v3, v4] (.null :: st) f Q = pz_R dA d 30 62 [v0, v1, v2, v3, .null] st f Q := pz_go (pz_so d30_60 rfl)
theorem d30_62 : decode (pz_b 30) 62 = .ok (.aload 4, 2) := by decide +kernel
theorem q30_62 {dA : Nat → ClassId} {d : Nat} {st : List Value} {f : pz_F} {Q : Option Value → pz_F → Prop} {v0 v1 v2 v3 : Value} {x : Nat} : pz_R dA d 30 62 [v0, v1, v2, v3, .ref x] st f Q = pz_R dA d 30 64 [v0, v1, v2, v3, .ref x] (.ref x :: st) f Q := pz_go (pz_so d30_62 rfl)
theorem q30_62n {dA : Nat → ClassId} {d : Nat} {st : List Value} {f : pz_F} {Q : Option Value → pz_F → Prop} {v0 v1 v2 v3 : Value} : pz_R dA d 30 62 [v0, v1, v2, v3, .null] st f Q = pz_R dA d 30 64 [v0, v1, v2, v3, .null] (.null :: st) f Q := pz_go (pz_so d30_62 rfl)
theorem d30_64 : decode (pz_b 30) 64 = .ok (.aload_n 1, 1) := by decide +kernel
theorem q30_64 {dA : Nat → ClassId} {d : Nat} {st : List Value} {f : pz_F} {Q : Option Value → pz_F → Prop} {v0 v2 v3 v4 : Value} {x : Nat} : pz_R dA d 30 64 [v0, .ref x, v2, v3, v4] st f Q = pz_R dA d 30 65 [v0, .ref x, v2, v3, v4] (.ref x :: st) f Q := pz_go (pz_so d30_64 rfl)
theorem q30_64n {dA : Nat → ClassId} {d : Nat} {st : List Value} {f : pz_F} {Q : Option Value → pz_F → Prop} {v0 v2 v3 v4 : Value} : pz_R dA d 30 64 [v0, .null, v2, v3, v4] st f Q = pz_R dA d 30 65 [v0, .null, v2, v3, v4] (.null :: st) f Q := pz_go (pz_so d30_64 rfl)
theorem d30_65 : decode (pz_b 30) 65 = .ok (.getfield 215, 3) := by decide +kernel
theorem q30_65 {dA : Nat → ClassId} {d : Nat} {st : List Value} {f : pz_F} {Q : Option Value → pz_F → Prop} {v0 v1 v2 v3 v4 : Value} {a : Nat} : pz_R dA d 30 65 [v0, v1, v2, v3, v4] (.ref a :: st) f Q = pz_o (pz_gf f a 5 1) (fun v => pz_R dA d 30 68 [v0, v1, v2, v3, v4] (v :: st) f Q) := pz_gg d30_65 rfl
theorem d30_68 : decode (pz_b 30) 68 = .ok (.aload_n 0, 1) := by decide +kernel
theorem q30_68 {dA : Nat → ClassId} {d : Nat} {st : List Value} {f : pz_F} {Q : Option Value → pz_F → Prop} {v1 v2 v3 v4 : Value} {x : Nat} : pz_R dA d 30 68 [.ref x, v1, v2, v3, v4] st f Q = pz_R dA d 30 69 [.ref x, v1, v2, v3, v4] (.ref x :: st) f Q := pz_go (pz_so d30_68 rfl)
theorem d30_69 : decode (pz_b 30) 69 = .ok (.getfield 7, 3) := by decide +kernel
theorem q30_69 {dA : Nat → ClassId} {d : Nat} {st : List Value} {f : pz_F} {Q : Option Value → pz_F → Prop} {v0 v1 v2 v3 v4 : Value} {a : Nat} : pz_R dA d 30 69 [v0, v1, v2, v3, v4] (.ref a :: st) f Q = pz_o (pz_gf f a 0 0) (fun v => pz_R dA d 30 72 [v0, v1, v2, v3, v4] (v :: st) f Q) := pz_gg d30_69 rfl
theorem d30_72 : decode (pz_b 30) 72 = .ok (.aload_n 2, 1) := by decide +kernel
theorem q30_72 {dA : Nat → ClassId} {d : Nat} {st : List Value} {f : pz_F} {Q : Option Value → pz_F → Prop} {v0 v1 v3 v4 : Value} {x : Nat} : pz_R dA d 30 72 [v0, v1, .ref x, v3, v4] st f Q = pz_R dA d 30 73 [v0, v1, .ref x, v3, v4] (.ref x :: st) f Q := pz_go (pz_so d30_72 rfl)
theorem q30_72n {dA : Nat → ClassId} {d : Nat} {st : List Value} {f : pz_F} {Q : Option Value → pz_F → Prop} {v0 v1 v3 v4 : Value} : pz_R dA d 30 72 [v0, v1, .null, v3, v4] st f Q = pz_R dA d 30 73 [v0, v1, .null, v3, v4] (.null :: st) f Q := pz_go (pz_so d30_72 rfl)
theorem d30_73 : decode (pz_b 30) 73 = .ok (.getfield 46, 3) := by decide +kernel
theorem q30_73 {dA : Nat → ClassId} {d : Nat} {st : List Value} {f : pz_F} {Q : Option Value → pz_F → Prop} {v0 v1 v2 v3 v4 : Value} {a : Nat} : pz_R dA d 30 73 [v0, v1, v2, v3, v4] (.ref a :: st) f Q = pz_o (pz_gf f a 1 2) (fun v => pz_R dA d 30 76 [v0, v1, v2, v3, v4] (v :: st) f Q) := pz_gg d30_73 rfl
theorem d30_76 : decode (pz_b 30) 76 = .ok (.iconst 3, 1) := by decide +kernel
theorem q30_76 {dA : Nat → ClassId} {d : Nat} {st : List Value} {f : pz_F} {Q : Option Value → pz_F → Prop} {v0 v1 v2 v3 v4 : Value} : pz_R dA d 30 76 [v0, v1, v2, v3, v4] st f Q = pz_R dA d 30 77 [v0, v1, v2, v3, v4] (.int 3 :: st) f Q := pz_go (pz_so d30_76 rfl)
theorem d30_77 : decode (pz_b 30) 77 = .ok (.if_icmp .ne 7, 3) := by decide +kernel
theorem q30_77 {dA : Nat → ClassId} {d : Nat} {st : List Value} {f : pz_F} {Q : Option Value → pz_F → Prop} {v0 v1 v2 v3 v4 : Value} {x y : Int32} : pz_R dA d 30 77 [v0, v1, v2, v3, v4] (.int y :: .int x :: st) f Q = (if x = y then pz_R dA d 30 80 [v0, v1, v2, v3, v4] st f Q else pz_R dA d 30 84 [v0, v1, v2, v3, v4] st f Q) := pz_gjn .ne d30_77 rfl
theorem d30_80 : decode (pz_b 30) 80 = .ok (.iconst 1, 1) := by decide +kernel
theorem q30_80 {dA : Nat → ClassId} {d : Nat} {st : List Value} {f : pz_F} {Q : Option Value → pz_F → Prop} {v0 v1 v2 v3 v4 : Value} : pz_R dA d 30 80 [v0, v1, v2, v3, v4] st f Q = pz_R dA d 30 81 [v0, v1, v2, v3, v4] (.int 1 :: st) f Q := pz_go (pz_so d30_80 rfl)
theorem d30_81 : decode (pz_b 30) 81 = .ok (.goto 4, 3) := by decide +kernel
theorem q30_81 {dA : Nat → ClassId} {d : Nat} {st : List Value} {f : pz_F} {Q : Option Value → pz_F → Prop} {v0 v1 v2 v3 v4 : Value} : pz_R dA d 30 81 [v0, v1, v2, v3, v4] st f Q = pz_R dA d 30 85 [v0, v1, v2, v3, v4] st f Q := pz_go (pz_so d30_81 rfl)
theorem d30_84 : decode (pz_b 30) 84 = .ok (.iconst 0, 1) := by decide +kernel
theorem q30_84 {dA : Nat → ClassId} {d : Nat} {st : List Value} {f : pz_F} {Q : Option Value → pz_F → Prop} {v0 v1 v2 v3 v4 : Value} : pz_R dA d 30 84 [v0, v1, v2, v3, v4] st f Q = pz_R dA d 30 85 [v0, v1, v2, v3, v4] (.int 0 :: st) f Q := pz_go (pz_so d30_84 rfl)
theorem d30_85 : decode (pz_b 30) 85 = .ok (.invokevirtual 251, 3) := by decide +kernel
theorem q30_85 {dA : Nat → ClassId} {d : Nat} {st : List Value} {f : pz_F} {Q : Option Value → pz_F → Prop} {v0 v1 v2 v3 v4 : Value} {c0 : Int32} {c1 : Int32} {c2 : Int32} {b : Nat} (hr : st.length ≤ 4) : pz_R dA (d + 1) 30 85 [v0, v1, v2, v3, v4] (.int c2 :: .int c1 :: .int c0 :: .ref b :: st) f Q = pz_o (pz_gu f b 2) (fun _ => pz_C dA d 54 [.ref b, .int c0, .int c1, .int c2] f (fun r f' => pz_R dA (d + 1) 30 88 [v0, v1, v2, v3, v4] (r.toList ++ st) f' Q)) := pz_gcv (As := [.int c0, .int c1, .int c2]) d30_85 rfl rfl rfl hr
theorem d30_88 : decode (pz_b 30) 88 = .ok (.aload_n 0, 1) := by decide +kernel
theorem q30_88 {dA : Nat → ClassId} {d : Nat} {st : List Value} {f : pz_F} {Q : Option Value → pz_F → Prop} {v1 v2 v3 v4 : Value} {x : Nat} : pz_R dA d 30 88 [.ref x, v1, v2, v3, v4] st f Q = pz_R dA d 30 89 [.ref x, v1, v2, v3, v4] (.ref x :: st) f Q := pz_go (pz_so d30_88 rfl)
theorem d30_89 : decode (pz_b 30) 89 = .ok (.aload_n 1, 1) := by decide +kernel
theorem q30_89 {dA : Nat → ClassId} {d : Nat} {st : List Value} {f : pz_F} {Q : Option Value → pz_F → Prop} {v0 v2 v3 v4 : Value} {x : Nat} : pz_R dA d 30 89 [v0, .ref x, v2, v3, v4] st f Q = pz_R dA d 30 90 [v0, .ref x, v2, v3, v4] (.ref x :: st) f Q := pz_go (pz_so d30_89 rfl)
theorem q30_89n {dA : Nat → ClassId} {d : Nat} {st : List Value} {f : pz_F} {Q : Option Value → pz_F → Prop} {v0 v2 v3 v4 : Value} : pz_R dA d 30 89 [v0, .null, v2, v3, v4] st f Q = pz_R dA d 30 90 [v0, .null, v2, v3, v4] (.null :: st) f Q := pz_go (pz_so d30_89 rfl)
theorem d30_90 : decode (pz_b 30) 90 = .ok (.iload_n 3, 1) := by decide +kernel
theorem q30_90 {dA : Nat → ClassId} {d : Nat} {st : List Value} {f : pz_F} {Q : Option Value → pz_F → Prop} {v0 v1 v2 v4 : Value} {x : Int32} : pz_R dA d 30 90 [v0, v1, v2, .int x, v4] st f Q = pz_R dA d 30 91 [v0, v1, v2, .int x, v4] (.int x :: st) f Q := pz_go (pz_so d30_90 rfl)
theorem d30_91 : decode (pz_b 30) 91 = .ok (.aload 4, 2) := by decide +kernel
theorem q30_91 {dA : Nat → ClassId} {d : Nat} {st : List Value} {f : pz_F} {Q : Option Value → pz_F → Prop} {v0 v1 v2 v3 : Value} {x : Nat} : pz_R dA d 30 91 [v0, v1, v2, v3, .ref x] st f Q = pz_R dA d 30 93 [v0, v1, v2, v3, .ref x] (.ref x :: st) f Q := pz_go (pz_so d30_91 rfl)
theorem q30_91n {dA : Nat → ClassId} {d : Nat} {st : List Value} {f : pz_F} {Q : Option Value → pz_F → Prop} {v0 v1 v2 v3 : Value} : pz_R dA d 30 91 [v0, v1, v2, v3, .null] st f Q = pz_R dA d 30 93 [v0, v1, v2, v3, .null] (.null :: st) f Q := pz_go (pz_so d30_91 rfl)
theorem d30_93 : decode (pz_b 30) 93 = .ok (.getfield 186, 3) := by decide +kernel
theorem q30_93 {dA : Nat → ClassId} {d : Nat} {st : List Value} {f : pz_F} {Q : Option Value → pz_F → Prop} {v0 v1 v2 v3 v4 : Value} {a : Nat} : pz_R dA d 30 93 [v0, v1, v2, v3, v4] (.ref a :: st) f Q = pz_o (pz_gf f a 2 2) (fun v => pz_R dA d 30 96 [v0, v1, v2, v3, v4] (v :: st) f Q) := pz_gg d30_93 rfl
theorem d30_96 : decode (pz_b 30) 96 = .ok (.invokevirtual 255, 3) := by decide +kernel
theorem q30_96 {dA : Nat → ClassId} {d : Nat} {st : List Value} {f : pz_F} {Q : Option Value → pz_F → Prop} {v0 v1 v2 v3 v4 : Value} {c0 : Nat} {c1 : Int32} {c2 : Int32} {b : Nat} (hr : st.length ≤ 4) : pz_R dA (d + 1) 30 96 [v0, v1, v2, v3, v4] (.int c2 :: .int c1 :: .ref c0 :: .ref b :: st) f Q = pz_o (pz_gu f b 0) (fun _ => pz_C dA d 26 [.ref b, .ref c0, .int c1, .int c2] f (fun r f' => pz_R dA (d + 1) 30 99 [v0, v1, v2, v3, v4] (r.toList ++ st) f' Q)) := pz_gcv (As := [.ref c0, .int c1, .int c2]) d30_96 rfl rfl rfl hr
theorem d30_99 : decode (pz_b 30) 99 = .ok (.return_, 1) := by decide +kernel
theorem q30_99 {dA : Nat → ClassId} {d : Nat} {f : pz_F} {Q : Option Value → pz_F → Prop} {v0 v1 v2 v3 v4 : Value} : pz_R dA d 30 99 [v0, v1, v2, v3, v4] [] f Q = Q none f := pz_gr (pz_so d30_99 rfl)
/-! P_arriveRelease (LLeasePair$Message;)V -/
theorem e31 {dA : Nat → ClassId} {d : Nat} {f : pz_F} {Q : Option Value → pz_F → Prop} {a0 : Nat} {a1 : Nat} : pz_C dA d 31 [.ref a0, .ref a1] f Q = pz_R dA d 31 0 [.ref a0, .ref a1, .retAddr 0, .retAddr 0] [] f Q := rfl
theorem d31_0 : decode (pz_b 31) 0 = .ok (.aload_n 0, 1) := by decide +kernel
theorem q31_0 {dA : Nat → ClassId} {d : Nat} {st : List Value} {f : pz_F} {Q : Option Value → pz_F → Prop} {v1 v2 v3 : Value} {x : Nat} : pz_R dA d 31 0 [.ref x, v1, v2, v3] st f Q = pz_R dA d 31 1 [.ref x, v1, v2, v3] (.ref x :: st) f Q := pz_go (pz_so d31_0 rfl)
theorem d31_1 : decode (pz_b 31) 1 = .ok (.getfield 19, 3) := by decide +kernel
theorem q31_1 {dA : Nat → ClassId} {d : Nat} {st : List Value} {f : pz_F} {Q : Option Value → pz_F → Prop} {v0 v1 v2 v3 : Value} {a : Nat} : pz_R dA d 31 1 [v0, v1, v2, v3] (.ref a :: st) f Q = pz_o (pz_gf f a 0 2) (fun v => pz_R dA d 31 4 [v0, v1, v2, v3] (v :: st) f Q) := pz_gg d31_1 rfl
theorem d31_4 : decode (pz_b 31) 4 = .ok (.aload_n 1, 1) := by decide +kernel
theorem q31_4 {dA : Nat → ClassId} {d : Nat} {st : List Value} {f : pz_F} {Q : Option Value → pz_F → Prop} {v0 v2 v3 : Value} {x : Nat} : pz_R dA d 31 4 [v0, .ref x, v2, v3] st f Q = pz_R dA d 31 5 [v0, .ref x, v2, v3] (.ref x :: st) f Q := pz_go (pz_so d31_4 rfl)
theorem q31_4n {dA : Nat → ClassId} {d : Nat} {st : List Value} {f : pz_F} {Q : Option Value → pz_F → Prop} {v0 v2 v3 : Value} : pz_R dA d 31 4 [v0, .null, v2, v3] st f Q = pz_R dA d 31 5 [v0, .null, v2, v3] (.null :: st) f Q := pz_go (pz_so d31_4 rfl)
theorem d31_5 : decode (pz_b 31) 5 = .ok (.getfield 212, 3) := by decide +kernel
theorem q31_5 {dA : Nat → ClassId} {d : Nat} {st : List Value} {f : pz_F} {Q : Option Value → pz_F → Prop} {v0 v1 v2 v3 : Value} {a : Nat} : pz_R dA d 31 5 [v0, v1, v2, v3] (.ref a :: st) f Q = pz_o (pz_gf f a 5 2) (fun v => pz_R dA d 31 8 [v0, v1, v2, v3] (v :: st) f Q) := pz_gg d31_5 rfl
theorem d31_8 : decode (pz_b 31) 8 = .ok (.aaload, 1) := by decide +kernel
theorem q31_8 {dA : Nat → ClassId} {d : Nat} {st : List Value} {f : pz_F} {Q : Option Value → pz_F → Prop} {v0 v1 v2 v3 : Value} {i : Int32} {a : Nat} : pz_R dA d 31 8 [v0, v1, v2, v3] (.int i :: .ref a :: st) f Q = pz_o (pz_rl dA f a i) (fun v => pz_R dA d 31 9 [v0, v1, v2, v3] (v :: st) f Q) := pz_grl d31_8
theorem d31_9 : decode (pz_b 31) 9 = .ok (.astore_n 2, 1) := by decide +kernel
theorem q31_9 {dA : Nat → ClassId} {d : Nat} {st : List Value} {f : pz_F} {Q : Option Value → pz_F → Prop} {v0 v1 v2 v3 : Value} {x : Nat} : pz_R dA d 31 9 [v0, v1, v2, v3] (.ref x :: st) f Q = pz_R dA d 31 10 [v0, v1, .ref x, v3] st f Q := pz_go (pz_so d31_9 rfl)
theorem q31_9n {dA : Nat → ClassId} {d : Nat} {st : List Value} {f : pz_F} {Q : Option Value → pz_F → Prop} {v0 v1 v2 v3 : Value} : pz_R dA d 31 9 [v0, v1, v2, v3] (.null :: st) f Q = pz_R dA d 31 10 [v0, v1, .null, v3] st f Q := pz_go (pz_so d31_9 rfl)
theorem d31_10 : decode (pz_b 31) 10 = .ok (.aload_n 2, 1) := by decide +kernel
theorem q31_10 {dA : Nat → ClassId} {d : Nat} {st : List Value} {f : pz_F} {Q : Option Value → pz_F → Prop} {v0 v1 v3 : Value} {x : Nat} : pz_R dA d 31 10 [v0, v1, .ref x, v3] st f Q = pz_R dA d 31 11 [v0, v1, .ref x, v3] (.ref x :: st) f Q := pz_go (pz_so d31_10 rfl)
theorem q31_10n {dA : Nat → ClassId} {d : Nat} {st : List Value} {f : pz_F} {Q : Option Value → pz_F → Prop} {v0 v1 v3 : Value} : pz_R dA d 31 10 [v0, v1, .null, v3] st f Q = pz_R dA d 31 11 [v0, v1, .null, v3] (.null :: st) f Q := pz_go (pz_so d31_10 rfl)
theorem d31_11 : decode (pz_b 31) 11 = .ok (.getfield 121, 3) := by decide +kernel
theorem q31_11 {dA : Nat → ClassId} {d : Nat} {st : List Value} {f : pz_F} {Q : Option Value → pz_F → Prop} {v0 v1 v2 v3 : Value} {a : Nat} : pz_R dA d 31 11 [v0, v1, v2, v3] (.ref a :: st) f Q = pz_o (pz_gf f a 1 1) (fun v => pz_R dA d 31 14 [v0, v1, v2, v3] (v :: st) f Q) := pz_gg d31_11 rfl
theorem d31_14 : decode (pz_b 31) 14 = .ok (.aload_n 1, 1) := by decide +kernel
theorem q31_14 {dA : Nat → ClassId} {d : Nat} {st : List Value} {f : pz_F} {Q : Option Value → pz_F → Prop} {v0 v2 v3 : Value} {x : Nat} : pz_R dA d 31 14 [v0, .ref x, v2, v3] st f Q = pz_R dA d 31 15 [v0, .ref x, v2, v3] (.ref x :: st) f Q := pz_go (pz_so d31_14 rfl)
theorem q31_14n {dA : Nat → ClassId} {d : Nat} {st : List Value} {f : pz_F} {Q : Option Value → pz_F → Prop} {v0 v2 v3 : Value} : pz_R dA d 31 14 [v0, .null, v2, v3] st f Q = pz_R dA d 31 15 [v0, .null, v2, v3] (.null :: st) f Q := pz_go (pz_so d31_14 rfl)
theorem d31_15 : decode (pz_b 31) 15 = .ok (.getfield 80, 3) := by decide +kernel
theorem q31_15 {dA : Nat → ClassId} {d : Nat} {st : List Value} {f : pz_F} {Q : Option Value → pz_F → Prop} {v0 v1 v2 v3 : Value} {a : Nat} : pz_R dA d 31 15 [v0, v1, v2, v3] (.ref a :: st) f Q = pz_o (pz_gf f a 5 5) (fun v => pz_R dA d 31 18 [v0, v1, v2, v3] (v :: st) f Q) := pz_gg d31_15 rfl
theorem d31_18 : decode (pz_b 31) 18 = .ok (.aaload, 1) := by decide +kernel
theorem q31_18 {dA : Nat → ClassId} {d : Nat} {st : List Value} {f : pz_F} {Q : Option Value → pz_F → Prop} {v0 v1 v2 v3 : Value} {i : Int32} {a : Nat} : pz_R dA d 31 18 [v0, v1, v2, v3] (.int i :: .ref a :: st) f Q = pz_o (pz_rl dA f a i) (fun v => pz_R dA d 31 19 [v0, v1, v2, v3] (v :: st) f Q) := pz_grl d31_18
theorem d31_19 : decode (pz_b 31) 19 = .ok (.astore_n 3, 1) := by decide +kernel
theorem q31_19 {dA : Nat → ClassId} {d : Nat} {st : List Value} {f : pz_F} {Q : Option Value → pz_F → Prop} {v0 v1 v2 v3 : Value} {x : Nat} : pz_R dA d 31 19 [v0, v1, v2, v3] (.ref x :: st) f Q = pz_R dA d 31 20 [v0, v1, v2, .ref x] st f Q := pz_go (pz_so d31_19 rfl)
theorem q31_19n {dA : Nat → ClassId} {d : Nat} {st : List Value} {f : pz_F} {Q : Option Value → pz_F → Prop} {v0 v1 v2 v3 : Value} : pz_R dA d 31 19 [v0, v1, v2, v3] (.null :: st) f Q = pz_R dA d 31 20 [v0, v1, v2, .null] st f Q := pz_go (pz_so d31_19 rfl)
theorem d31_20 : decode (pz_b 31) 20 = .ok (.aload_n 2, 1) := by decide +kernel
theorem q31_20 {dA : Nat → ClassId} {d : Nat} {st : List Value} {f : pz_F} {Q : Option Value → pz_F → Prop} {v0 v1 v3 : Value} {x : Nat} : pz_R dA d 31 20 [v0, v1, .ref x, v3] st f Q = pz_R dA d 31 21 [v0, v1, .ref x, v3] (.ref x :: st) f Q := pz_go (pz_so d31_20 rfl)
theorem q31_20n {dA : Nat → ClassId} {d : Nat} {st : List Value} {f : pz_F} {Q : Option Value → pz_F → Prop} {v0 v1 v3 : Value} : pz_R dA d 31 20 [v0, v1, .null, v3] st f Q = pz_R dA d 31 21 [v0, v1, .null, v3] (.null :: st) f Q := pz_go (pz_so d31_20 rfl)
theorem d31_21 : decode (pz_b 31) 21 = .ok (.invokevirtual 151, 3) := by decide +kernel
theorem q31_21 {dA : Nat → ClassId} {d : Nat} {st : List Value} {f : pz_F} {Q : Option Value → pz_F → Prop} {v0 v1 v2 v3 : Value} {b : Nat} (hr : st.length ≤ 4) : pz_R dA (d + 1) 31 21 [v0, v1, v2, v3] (.ref b :: st) f Q = pz_o (pz_gu f b 1) (fun _ => pz_C dA d 36 [.ref b] f (fun r f' => pz_R dA (d + 1) 31 24 [v0, v1, v2, v3] (r.toList ++ st) f' Q)) := pz_gcv (As := []) d31_21 rfl rfl rfl hr
theorem d31_24 : decode (pz_b 31) 24 = .ok (.ifCond .eq 18, 3) := by decide +kernel
theorem q31_24 {dA : Nat → ClassId} {d : Nat} {st : List Value} {f : pz_F} {Q : Option Value → pz_F → Prop} {v0 v1 v2 v3 : Value} {x : Int32} : pz_R dA d 31 24 [v0, v1, v2, v3] (.int x :: st) f Q = (if x = 0 then pz_R dA d 31 42 [v0, v1, v2, v3] st f Q else pz_R dA d 31 27 [v0, v1, v2, v3] st f Q) := pz_gj1 .eq d31_24 rfl
theorem d31_27 : decode (pz_b 31) 27 = .ok (.aload_n 3, 1) := by decide +kernel
theorem q31_27 {dA : Nat → ClassId} {d : Nat} {st : List Value} {f : pz_F} {Q : Option Value → pz_F → Prop} {v0 v1 v2 : Value} {x : Nat} : pz_R dA d 31 27 [v0, v1, v2, .ref x] st f Q = pz_R dA d 31 28 [v0, v1, v2, .ref x] (.ref x :: st) f Q := pz_go (pz_so d31_27 rfl)
theorem q31_27n {dA : Nat → ClassId} {d : Nat} {st : List Value} {f : pz_F} {Q : Option Value → pz_F → Prop} {v0 v1 v2 : Value} : pz_R dA d 31 27 [v0, v1, v2, .null] st f Q = pz_R dA d 31 28 [v0, v1, v2, .null] (.null :: st) f Q := pz_go (pz_so d31_27 rfl)
theorem d31_28 : decode (pz_b 31) 28 = .ok (.aload_n 1, 1) := by decide +kernel
theorem q31_28 {dA : Nat → ClassId} {d : Nat} {st : List Value} {f : pz_F} {Q : Option Value → pz_F → Prop} {v0 v2 v3 : Value} {x : Nat} : pz_R dA d 31 28 [v0, .ref x, v2, v3] st f Q = pz_R dA d 31 29 [v0, .ref x, v2, v3] (.ref x :: st) f Q := pz_go (pz_so d31_28 rfl)
theorem q31_28n {dA : Nat → ClassId} {d : Nat} {st : List Value} {f : pz_F} {Q : Option Value → pz_F → Prop} {v0 v2 v3 : Value} : pz_R dA d 31 28 [v0, .null, v2, v3] st f Q = pz_R dA d 31 29 [v0, .null, v2, v3] (.null :: st) f Q := pz_go (pz_so d31_28 rfl)
theorem d31_29 : decode (pz_b 31) 29 = .ok (.getfield 215, 3) := by decide +kernel
theorem q31_29 {dA : Nat → ClassId} {d : Nat} {st : List Value} {f : pz_F} {Q : Option Value → pz_F → Prop} {v0 v1 v2 v3 : Value} {a : Nat} : pz_R dA d 31 29 [v0, v1, v2, v3] (.ref a :: st) f Q = pz_o (pz_gf f a 5 1) (fun v => pz_R dA d 31 32 [v0, v1, v2, v3] (v :: st) f Q) := pz_gg d31_29 rfl
theorem d31_32 : decode (pz_b 31) 32 = .ok (.invokevirtual 259, 3) := by decide +kernel
theorem q31_32 {dA : Nat → ClassId} {d : Nat} {st : List Value} {f : pz_F} {Q : Option Value → pz_F → Prop} {v0 v1 v2 v3 : Value} {c0 : Int32} {b : Nat} (hr : st.length ≤ 4) : pz_R dA (d + 1) 31 32 [v0, v1, v2, v3] (.int c0 :: .ref b :: st) f Q = pz_o (pz_gu f b 2) (fun _ => pz_C dA d 50 [.ref b, .int c0] f (fun r f' => pz_R dA (d + 1) 31 35 [v0, v1, v2, v3] (r.toList ++ st) f' Q)) := pz_gcv (As := [.int c0]) d31_32 rfl rfl rfl hr
theorem d31_35 : decode (pz_b 31) 35 = .ok (.ifCond .eq 7, 3) := by decide +kernel
theorem q31_35 {dA : Nat → ClassId} {d : Nat} {st : List Value} {f : pz_F} {Q : Option Value → pz_F → Prop} {v0 v1 v2 v3 : Value} {x : Int32} : pz_R dA d 31 35 [v0, v1, v2, v3] (.int x :: st) f Q = (if x = 0 then pz_R dA d 31 42 [v0, v1, v2, v3] st f Q else pz_R dA d 31 38 [v0, v1, v2, v3] st f Q) := pz_gj1 .eq d31_35 rfl
theorem d31_38 : decode (pz_b 31) 38 = .ok (.aload_n 3, 1) := by decide +kernel
theorem q31_38 {dA : Nat → ClassId} {d : Nat} {st : List Value} {f : pz_F} {Q : Option Value → pz_F → Prop} {v0 v1 v2 : Value} {x : Nat} : pz_R dA d 31 38 [v0, v1, v2, .ref x] st f Q = pz_R dA d 31 39 [v0, v1, v2, .ref x] (.ref x :: st) f Q := pz_go (pz_so d31_38 rfl)
theorem q31_38n {dA : Nat → ClassId} {d : Nat} {st : List Value} {f : pz_F} {Q : Option Value → pz_F → Prop} {v0 v1 v2 : Value} : pz_R dA d 31 38 [v0, v1, v2, .null] st f Q = pz_R dA d 31 39 [v0, v1, v2, .null] (.null :: st) f Q := pz_go (pz_so d31_38 rfl)
theorem d31_39 : decode (pz_b 31) 39 = .ok (.invokevirtual 262, 3) := by decide +kernel
theorem q31_39 {dA : Nat → ClassId} {d : Nat} {st : List Value} {f : pz_F} {Q : Option Value → pz_F → Prop} {v0 v1 v2 v3 : Value} {b : Nat} (hr : st.length ≤ 4) : pz_R dA (d + 1) 31 39 [v0, v1, v2, v3] (.ref b :: st) f Q = pz_o (pz_gu f b 2) (fun _ => pz_C dA d 53 [.ref b] f (fun r f' => pz_R dA (d + 1) 31 42 [v0, v1, v2, v3] (r.toList ++ st) f' Q)) := pz_gcv (As := []) d31_39 rfl rfl rfl hr
theorem d31_42 : decode (pz_b 31) 42 = .ok (.return_, 1) := by decide +kernel
theorem q31_42 {dA : Nat → ClassId} {d : Nat} {f : pz_F} {Q : Option Value → pz_F → Prop} {v0 v1 v2 v3 : Value} : pz_R dA d 31 42 [v0, v1, v2, v3] [] f Q = Q none f := pz_gr (pz_so d31_42 rfl)
/-! P_arriveUpdate (LLeasePair$Message;)V -/
theorem e32 {dA : Nat → ClassId} {d : Nat} {f : pz_F} {Q : Option Value → pz_F → Prop} {a0 : Nat} {a1 : Nat} : pz_C dA d 32 [.ref a0, .ref a1] f Q = pz_R dA d 32 0 [.ref a0, .ref a1] [] f Q := rfl
theorem d32_0 : decode (pz_b 32) 0 = .ok (.aload_n 0, 1) := by decide +kernel
theorem q32_0 {dA : Nat → ClassId} {d : Nat} {st : List Value} {f : pz_F} {Q : Option Value → pz_F → Prop} {v1 : Value} {x : Nat} : pz_R dA d 32 0 [.ref x, v1] st f Q = pz_R dA d 32 1 [.ref x, v1] (.ref x :: st) f Q := pz_go (pz_so d32_0 rfl)
theorem d32_1 : decode (pz_b 32) 1 = .ok (.getfield 19, 3) := by decide +kernel
theorem q32_1 {dA : Nat → ClassId} {d : Nat} {st : List Value} {f : pz_F} {Q : Option Value → pz_F → Prop} {v0 v1 : Value} {a : Nat} : pz_R dA d 32 1 [v0, v1] (.ref a :: st) f Q = pz_o (pz_gf f a 0 2) (fun v => pz_R dA d 32 4 [v0, v1] (v :: st) f Q) := pz_gg d32_1 rfl
theorem d32_4 : decode (pz_b 32) 4 = .ok (.aload_n 1, 1) := by decide +kernel
theorem q32_4 {dA : Nat → ClassId} {d : Nat} {st : List Value} {f : pz_F} {Q : Option Value → pz_F → Prop} {v0 : Value} {x : Nat} : pz_R dA d 32 4 [v0, .ref x] st f Q = pz_R dA d 32 5 [v0, .ref x] (.ref x :: st) f Q := pz_go (pz_so d32_4 rfl)
theorem q32_4n {dA : Nat → ClassId} {d : Nat} {st : List Value} {f : pz_F} {Q : Option Value → pz_F → Prop} {v0 : Value} : pz_R dA d 32 4 [v0, .null] st f Q = pz_R dA d 32 5 [v0, .null] (.null :: st) f Q := pz_go (pz_so d32_4 rfl)
theorem d32_5 : decode (pz_b 32) 5 = .ok (.getfield 212, 3) := by decide +kernel
theorem q32_5 {dA : Nat → ClassId} {d : Nat} {st : List Value} {f : pz_F} {Q : Option Value → pz_F → Prop} {v0 v1 : Value} {a : Nat} : pz_R dA d 32 5 [v0, v1] (.ref a :: st) f Q = pz_o (pz_gf f a 5 2) (fun v => pz_R dA d 32 8 [v0, v1] (v :: st) f Q) := pz_gg d32_5 rfl
theorem d32_8 : decode (pz_b 32) 8 = .ok (.aaload, 1) := by decide +kernel
theorem q32_8 {dA : Nat → ClassId} {d : Nat} {st : List Value} {f : pz_F} {Q : Option Value → pz_F → Prop} {v0 v1 : Value} {i : Int32} {a : Nat} : pz_R dA d 32 8 [v0, v1] (.int i :: .ref a :: st) f Q = pz_o (pz_rl dA f a i) (fun v => pz_R dA d 32 9 [v0, v1] (v :: st) f Q) := pz_grl d32_8
theorem d32_9 : decode (pz_b 32) 9 = .ok (.aload_n 1, 1) := by decide +kernel
theorem q32_9 {dA : Nat → ClassId} {d : Nat} {st : List Value} {f : pz_F} {Q : Option Value → pz_F → Prop} {v0 : Value} {x : Nat} : pz_R dA d 32 9 [v0, .ref x] st f Q = pz_R dA d 32 10 [v0, .ref x] (.ref x :: st) f Q := pz_go (pz_so d32_9 rfl)
theorem q32_9n {dA : Nat → ClassId} {d : Nat} {st : List Value} {f : pz_F} {Q : Option Value → pz_F → Prop} {v0 : Value} : pz_R dA d 32 9 [v0, .null] st f Q = pz_R dA d 32 10 [v0, .null] (.null :: st) f Q := pz_go (pz_so d32_9 rfl)
theorem d32_10 : decode (pz_b 32) 10 = .ok (.aload_n 0, 1) := by decide +kernel
theorem q32_10 {dA : Nat → ClassId} {d : Nat} {st : List Value} {f : pz_F} {Q : Option Value → pz_F → Prop} {v1 : Value} {x : Nat} : pz_R dA d 32 10 [.ref x, v1] st f Q = pz_R dA d 32 11 [.ref x, v1] (.ref x :: st) f Q := pz_go (pz_so d32_10 rfl)
theorem d32_11 : decode (pz_b 32) 11 = .ok (.getfield 7, 3) := by decide +kernel
theorem q32_11 {dA : Nat → ClassId} {d : Nat} {st : List Value} {f : pz_F} {Q : Option Value → pz_F → Prop} {v0 v1 : Value} {a : Nat} : pz_R dA d 32 11 [v0, v1] (.ref a :: st) f Q = pz_o (pz_gf f a 0 0) (fun v => pz_R dA d 32 14 [v0, v1] (v :: st) f Q) := pz_gg d32_11 rfl
theorem d32_14 : decode (pz_b 32) 14 = .ok (.invokevirtual 265, 3) := by decide +kernel
theorem q32_14 {dA : Nat → ClassId} {d : Nat} {st : List Value} {f : pz_F} {Q : Option Value → pz_F → Prop} {v0 v1 : Value} {c0 : Nat} {c1 : Int32} {b : Nat} (hr : st.length ≤ 4) : pz_R dA (d + 1) 32 14 [v0, v1] (.int c1 :: .ref c0 :: .ref b :: st) f Q = pz_o (pz_gu f b 1) (fun _ => pz_C dA d 41 [.ref b, .ref c0, .int c1] f (fun r f' => pz_R dA (d + 1) 32 17 [v0, v1] (r.toList ++ st) f' Q)) := pz_gcv (As := [.ref c0, .int c1]) d32_14 rfl rfl rfl hr
theorem d32_17 : decode (pz_b 32) 17 = .ok (.ifCond .eq 8, 3) := by decide +kernel
theorem q32_17 {dA : Nat → ClassId} {d : Nat} {st : List Value} {f : pz_F} {Q : Option Value → pz_F → Prop} {v0 v1 : Value} {x : Int32} : pz_R dA d 32 17 [v0, v1] (.int x :: st) f Q = (if x = 0 then pz_R dA d 32 25 [v0, v1] st f Q else pz_R dA d 32 20 [v0, v1] st f Q) := pz_gj1 .eq d32_17 rfl
theorem d32_20 : decode (pz_b 32) 20 = .ok (.aload_n 0, 1) := by decide +kernel
theorem q32_20 {dA : Nat → ClassId} {d : Nat} {st : List Value} {f : pz_F} {Q : Option Value → pz_F → Prop} {v1 : Value} {x : Nat} : pz_R dA d 32 20 [.ref x, v1] st f Q = pz_R dA d 32 21 [.ref x, v1] (.ref x :: st) f Q := pz_go (pz_so d32_20 rfl)
theorem d32_21 : decode (pz_b 32) 21 = .ok (.aload_n 1, 1) := by decide +kernel
theorem q32_21 {dA : Nat → ClassId} {d : Nat} {st : List Value} {f : pz_F} {Q : Option Value → pz_F → Prop} {v0 : Value} {x : Nat} : pz_R dA d 32 21 [v0, .ref x] st f Q = pz_R dA d 32 22 [v0, .ref x] (.ref x :: st) f Q := pz_go (pz_so d32_21 rfl)
theorem q32_21n {dA : Nat → ClassId} {d : Nat} {st : List Value} {f : pz_F} {Q : Option Value → pz_F → Prop} {v0 : Value} : pz_R dA d 32 21 [v0, .null] st f Q = pz_R dA d 32 22 [v0, .null] (.null :: st) f Q := pz_go (pz_so d32_21 rfl)
theorem d32_22 : decode (pz_b 32) 22 = .ok (.invokevirtual 269, 3) := by decide +kernel
theorem q32_22 {dA : Nat → ClassId} {d : Nat} {st : List Value} {f : pz_F} {Q : Option Value → pz_F → Prop} {v0 v1 : Value} {c0 : Nat} {b : Nat} (hr : st.length ≤ 4) : pz_R dA (d + 1) 32 22 [v0, v1] (.ref c0 :: .ref b :: st) f Q = pz_o (pz_gu f b 0) (fun _ => pz_C dA d 27 [.ref b, .ref c0] f (fun r f' => pz_R dA (d + 1) 32 25 [v0, v1] (r.toList ++ st) f' Q)) := pz_gcv (As := [.ref c0]) d32_22 rfl rfl rfl hr
theorem d32_25 : decode (pz_b 32) 25 = .ok (.return_, 1) := by decide +kernel
theorem q32_25 {dA : Nat → ClassId} {d : Nat} {f : pz_F} {Q : Option Value → pz_F → Prop} {v0 v1 : Value} : pz_R dA d 32 25 [v0, v1] [] f Q = Q none f := pz_gr (pz_so d32_25 rfl)
/-! P_arriveAcknowledgement (LLeasePair$Message;)V -/
theorem e33 {dA : Nat → ClassId} {d : Nat} {f : pz_F} {Q : Option Value → pz_F → Prop} {a0 : Nat} {a1 : Nat} : pz_C dA d 33 [.ref a0, .ref a1] f Q = pz_R dA d 33 0 [.ref a0, .ref a1, .retAddr 0] [] f Q := rfl
theorem d33_0 : decode (pz_b 33) 0 = .ok (.aload_n 0, 1) := by decide +kernel
theorem q33_0 {dA : Nat → ClassId} {d : Nat} {st : List Value} {f : pz_F} {Q : Option Value → pz_F → Prop} {v1 v2 : Value} {x : Nat} : pz_R dA d 33 0 [.ref x, v1, v2] st f Q = pz_R dA d 33 1 [.ref x, v1, v2] (.ref x :: st) f Q := pz_go (pz_so d33_0 rfl)
theorem d33_1 : decode (pz_b 33) 1 = .ok (.getfield 19, 3) := by decide +kernel
theorem q33_1 {dA : Nat → ClassId} {d : Nat} {st : List Value} {f : pz_F} {Q : Option Value → pz_F → Prop} {v0 v1 v2 : Value} {a : Nat} : pz_R dA d 33 1 [v0, v1, v2] (.ref a :: st) f Q = pz_o (pz_gf f a 0 2) (fun v => pz_R dA d 33 4 [v0, v1, v2] (v :: st) f Q) := pz_gg d33_1 rfl
theorem d33_4 : decode (pz_b 33) 4 = .ok (.aload_n 1, 1) := by decide +kernel
theorem q33_4 {dA : Nat → ClassId} {d : Nat} {st : List Value} {f : pz_F} {Q : Option Value → pz_F → Prop} {v0 v2 : Value} {x : Nat} : pz_R dA d 33 4 [v0, .ref x, v2] st f Q = pz_R dA d 33 5 [v0, .ref x, v2] (.ref x :: st) f Q := pz_go (pz_so d33_4 rfl)
theorem q33_4n {dA : Nat → ClassId} {d : Nat} {st : List Value} {f : pz_F} {Q : Option Value → pz_F → Prop} {v0 v2 : Value} : pz_R dA d 33 4 [v0, .null, v2] st f Q = pz_R dA d 33 5 [v0, .null, v2] (.null :: st) f Q := pz_go (pz_so d33_4 rfl)
theorem d33_5 : decode (pz_b 33) 5 = .ok (.getfield 212, 3) := by decide +kernel
theorem q33_5 {dA : Nat → ClassId} {d : Nat} {st : List Value} {f : pz_F} {Q : Option Value → pz_F → Prop} {v0 v1 v2 : Value} {a : Nat} : pz_R dA d 33 5 [v0, v1, v2] (.ref a :: st) f Q = pz_o (pz_gf f a 5 2) (fun v => pz_R dA d 33 8 [v0, v1, v2] (v :: st) f Q) := pz_gg d33_5 rfl
theorem d33_8 : decode (pz_b 33) 8 = .ok (.aaload, 1) := by decide +kernel
theorem q33_8 {dA : Nat → ClassId} {d : Nat} {st : List Value} {f : pz_F} {Q : Option Value → pz_F → Prop} {v0 v1 v2 : Value} {i : Int32} {a : Nat} : pz_R dA d 33 8 [v0, v1, v2] (.int i :: .ref a :: st) f Q = pz_o (pz_rl dA f a i) (fun v => pz_R dA d 33 9 [v0, v1, v2] (v :: st) f Q) := pz_grl d33_8
theorem d33_9 : decode (pz_b 33) 9 = .ok (.astore_n 2, 1) := by decide +kernel
theorem q33_9 {dA : Nat → ClassId} {d : Nat} {st : List Value} {f : pz_F} {Q : Option Value → pz_F → Prop} {v0 v1 v2 : Value} {x : Nat} : pz_R dA d 33 9 [v0, v1, v2] (.ref x :: st) f Q = pz_R dA d 33 10 [v0, v1, .ref x] st f Q := pz_go (pz_so d33_9 rfl)
theorem q33_9n {dA : Nat → ClassId} {d : Nat} {st : List Value} {f : pz_F} {Q : Option Value → pz_F → Prop} {v0 v1 v2 : Value} : pz_R dA d 33 9 [v0, v1, v2] (.null :: st) f Q = pz_R dA d 33 10 [v0, v1, .null] st f Q := pz_go (pz_so d33_9 rfl)
theorem d33_10 : decode (pz_b 33) 10 = .ok (.aload_n 2, 1) := by decide +kernel
theorem q33_10 {dA : Nat → ClassId} {d : Nat} {st : List Value} {f : pz_F} {Q : Option Value → pz_F → Prop} {v0 v1 : Value} {x : Nat} : pz_R dA d 33 10 [v0, v1, .ref x] st f Q = pz_R dA d 33 11 [v0, v1, .ref x] (.ref x :: st) f Q := pz_go (pz_so d33_10 rfl)
theorem q33_10n {dA : Nat → ClassId} {d : Nat} {st : List Value} {f : pz_F} {Q : Option Value → pz_F → Prop} {v0 v1 : Value} : pz_R dA d 33 10 [v0, v1, .null] st f Q = pz_R dA d 33 11 [v0, v1, .null] (.null :: st) f Q := pz_go (pz_so d33_10 rfl)
theorem d33_11 : decode (pz_b 33) 11 = .ok (.invokevirtual 151, 3) := by decide +kernel
theorem q33_11 {dA : Nat → ClassId} {d : Nat} {st : List Value} {f : pz_F} {Q : Option Value → pz_F → Prop} {v0 v1 v2 : Value} {b : Nat} (hr : st.length ≤ 4) : pz_R dA (d + 1) 33 11 [v0, v1, v2] (.ref b :: st) f Q = pz_o (pz_gu f b 1) (fun _ => pz_C dA d 36 [.ref b] f (fun r f' => pz_R dA (d + 1) 33 14 [v0, v1, v2] (r.toList ++ st) f' Q)) := pz_gcv (As := []) d33_11 rfl rfl rfl hr
theorem d33_14 : decode (pz_b 33) 14 = .ok (.ifCond .eq 16, 3) := by decide +kernel
theorem q33_14 {dA : Nat → ClassId} {d : Nat} {st : List Value} {f : pz_F} {Q : Option Value → pz_F → Prop} {v0 v1 v2 : Value} {x : Int32} : pz_R dA d 33 14 [v0, v1, v2] (.int x :: st) f Q = (if x = 0 then pz_R dA d 33 30 [v0, v1, v2] st f Q else pz_R dA d 33 17 [v0, v1, v2] st f Q) := pz_gj1 .eq d33_14 rfl
theorem d33_17 : decode (pz_b 33) 17 = .ok (.aload_n 2, 1) := by decide +kernel
theorem q33_17 {dA : Nat → ClassId} {d : Nat} {st : List Value} {f : pz_F} {Q : Option Value → pz_F → Prop} {v0 v1 : Value} {x : Nat} : pz_R dA d 33 17 [v0, v1, .ref x] st f Q = pz_R dA d 33 18 [v0, v1, .ref x] (.ref x :: st) f Q := pz_go (pz_so d33_17 rfl)
theorem q33_17n {dA : Nat → ClassId} {d : Nat} {st : List Value} {f : pz_F} {Q : Option Value → pz_F → Prop} {v0 v1 : Value} : pz_R dA d 33 17 [v0, v1, .null] st f Q = pz_R dA d 33 18 [v0, v1, .null] (.null :: st) f Q := pz_go (pz_so d33_17 rfl)
theorem d33_18 : decode (pz_b 33) 18 = .ok (.getfield 121, 3) := by decide +kernel
theorem q33_18 {dA : Nat → ClassId} {d : Nat} {st : List Value} {f : pz_F} {Q : Option Value → pz_F → Prop} {v0 v1 v2 : Value} {a : Nat} : pz_R dA d 33 18 [v0, v1, v2] (.ref a :: st) f Q = pz_o (pz_gf f a 1 1) (fun v => pz_R dA d 33 21 [v0, v1, v2] (v :: st) f Q) := pz_gg d33_18 rfl
theorem d33_21 : decode (pz_b 33) 21 = .ok (.aload_n 1, 1) := by decide +kernel
theorem q33_21 {dA : Nat → ClassId} {d : Nat} {st : List Value} {f : pz_F} {Q : Option Value → pz_F → Prop} {v0 v2 : Value} {x : Nat} : pz_R dA d 33 21 [v0, .ref x, v2] st f Q = pz_R dA d 33 22 [v0, .ref x, v2] (.ref x :: st) f Q := pz_go (pz_so d33_21 rfl)
theorem q33_21n {dA : Nat → ClassId} {d : Nat} {st : List Value} {f : pz_F} {Q : Option Value → pz_F → Prop} {v0 v2 : Value} : pz_R dA d 33 21 [v0, .null, v2] st f Q = pz_R dA d 33 22 [v0, .null, v2] (.null :: st) f Q := pz_go (pz_so d33_21 rfl)
theorem d33_22 : decode (pz_b 33) 22 = .ok (.getfield 80, 3) := by decide +kernel
theorem q33_22 {dA : Nat → ClassId} {d : Nat} {st : List Value} {f : pz_F} {Q : Option Value → pz_F → Prop} {v0 v1 v2 : Value} {a : Nat} : pz_R dA d 33 22 [v0, v1, v2] (.ref a :: st) f Q = pz_o (pz_gf f a 5 5) (fun v => pz_R dA d 33 25 [v0, v1, v2] (v :: st) f Q) := pz_gg d33_22 rfl
theorem d33_25 : decode (pz_b 33) 25 = .ok (.aaload, 1) := by decide +kernel
theorem q33_25 {dA : Nat → ClassId} {d : Nat} {st : List Value} {f : pz_F} {Q : Option Value → pz_F → Prop} {v0 v1 v2 : Value} {i : Int32} {a : Nat} : pz_R dA d 33 25 [v0, v1, v2] (.int i :: .ref a :: st) f Q = pz_o (pz_rl dA f a i) (fun v => pz_R dA d 33 26 [v0, v1, v2] (v :: st) f Q) := pz_grl d33_25
theorem d33_26 : decode (pz_b 33) 26 = .ok (.aload_n 1, 1) := by decide +kernel
theorem q33_26 {dA : Nat → ClassId} {d : Nat} {st : List Value} {f : pz_F} {Q : Option Value → pz_F → Prop} {v0 v2 : Value} {x : Nat} : pz_R dA d 33 26 [v0, .ref x, v2] st f Q = pz_R dA d 33 27 [v0, .ref x, v2] (.ref x :: st) f Q := pz_go (pz_so d33_26 rfl)
theorem q33_26n {dA : Nat → ClassId} {d : Nat} {st : List Value} {f : pz_F} {Q : Option Value → pz_F → Prop} {v0 v2 : Value} : pz_R dA d 33 26 [v0, .null, v2] st f Q = pz_R dA d 33 27 [v0, .null, v2] (.null :: st) f Q := pz_go (pz_so d33_26 rfl)
theorem d33_27 : decode (pz_b 33) 27 = .ok (.invokevirtual 272, 3) := by decide +kernel
theorem q33_27 {dA : Nat → ClassId} {d : Nat} {st : List Value} {f : pz_F} {Q : Option Value → pz_F → Prop} {v0 v1 v2 : Value} {c0 : Nat} {b : Nat} (hr : st.length ≤ 4) : pz_R dA (d + 1) 33 27 [v0, v1, v2] (.ref c0 :: .ref b :: st) f Q = pz_o (pz_gu f b 2) (fun _ => pz_C dA d 62 [.ref b, .ref c0] f (fun r f' => pz_R dA (d + 1) 33 30 [v0, v1, v2] (r.toList ++ st) f' Q)) := pz_gcv (As := [.ref c0]) d33_27 rfl rfl rfl hr
theorem d33_30 : decode (pz_b 33) 30 = .ok (.return_, 1) := by decide +kernel
theorem q33_30 {dA : Nat → ClassId} {d : Nat} {f : pz_F} {Q : Option Value → pz_F → Prop} {v0 v1 v2 : Value} : pz_R dA d 33 30 [v0, v1, v2] [] f Q = Q none f := pz_gr (pz_so d33_30 rfl)
/-! P_arriveDemand (LLeasePair$Message;)V -/
theorem e34 {dA : Nat → ClassId} {d : Nat} {f : pz_F} {Q : Option Value → pz_F → Prop} {a0 : Nat} {a1 : Nat} : pz_C dA d 34 [.ref a0, .ref a1] f Q = pz_R dA d 34 0 [.ref a0, .ref a1, .retAddr 0] [] f Q := rfl
theorem d34_0 : decode (pz_b 34) 0 = .ok (.aload_n 0, 1) := by decide +kernel
theorem q34_0 {dA : Nat → ClassId} {d : Nat} {st : List Value} {f : pz_F} {Q : Option Value → pz_F → Prop} {v1 v2 : Value} {x : Nat} : pz_R dA d 34 0 [.ref x, v1, v2] st f Q = pz_R dA d 34 1 [.ref x, v1, v2] (.ref x :: st) f Q := pz_go (pz_so d34_0 rfl)
theorem d34_1 : decode (pz_b 34) 1 = .ok (.getfield 19, 3) := by decide +kernel
theorem q34_1 {dA : Nat → ClassId} {d : Nat} {st : List Value} {f : pz_F} {Q : Option Value → pz_F → Prop} {v0 v1 v2 : Value} {a : Nat} : pz_R dA d 34 1 [v0, v1, v2] (.ref a :: st) f Q = pz_o (pz_gf f a 0 2) (fun v => pz_R dA d 34 4 [v0, v1, v2] (v :: st) f Q) := pz_gg d34_1 rfl
theorem d34_4 : decode (pz_b 34) 4 = .ok (.aload_n 1, 1) := by decide +kernel
theorem q34_4 {dA : Nat → ClassId} {d : Nat} {st : List Value} {f : pz_F} {Q : Option Value → pz_F → Prop} {v0 v2 : Value} {x : Nat} : pz_R dA d 34 4 [v0, .ref x, v2] st f Q = pz_R dA d 34 5 [v0, .ref x, v2] (.ref x :: st) f Q := pz_go (pz_so d34_4 rfl)
theorem q34_4n {dA : Nat → ClassId} {d : Nat} {st : List Value} {f : pz_F} {Q : Option Value → pz_F → Prop} {v0 v2 : Value} : pz_R dA d 34 4 [v0, .null, v2] st f Q = pz_R dA d 34 5 [v0, .null, v2] (.null :: st) f Q := pz_go (pz_so d34_4 rfl)
theorem d34_5 : decode (pz_b 34) 5 = .ok (.getfield 212, 3) := by decide +kernel
theorem q34_5 {dA : Nat → ClassId} {d : Nat} {st : List Value} {f : pz_F} {Q : Option Value → pz_F → Prop} {v0 v1 v2 : Value} {a : Nat} : pz_R dA d 34 5 [v0, v1, v2] (.ref a :: st) f Q = pz_o (pz_gf f a 5 2) (fun v => pz_R dA d 34 8 [v0, v1, v2] (v :: st) f Q) := pz_gg d34_5 rfl
theorem d34_8 : decode (pz_b 34) 8 = .ok (.aaload, 1) := by decide +kernel
theorem q34_8 {dA : Nat → ClassId} {d : Nat} {st : List Value} {f : pz_F} {Q : Option Value → pz_F → Prop} {v0 v1 v2 : Value} {i : Int32} {a : Nat} : pz_R dA d 34 8 [v0, v1, v2] (.int i :: .ref a :: st) f Q = pz_o (pz_rl dA f a i) (fun v => pz_R dA d 34 9 [v0, v1, v2] (v :: st) f Q) := pz_grl d34_8
theorem d34_9 : decode (pz_b 34) 9 = .ok (.astore_n 2, 1) := by decide +kernel
theorem q34_9 {dA : Nat → ClassId} {d : Nat} {st : List Value} {f : pz_F} {Q : Option Value → pz_F → Prop} {v0 v1 v2 : Value} {x : Nat} : pz_R dA d 34 9 [v0, v1, v2] (.ref x :: st) f Q = pz_R dA d 34 10 [v0, v1, .ref x] st f Q := pz_go (pz_so d34_9 rfl)
theorem q34_9n {dA : Nat → ClassId} {d : Nat} {st : List Value} {f : pz_F} {Q : Option Value → pz_F → Prop} {v0 v1 v2 : Value} : pz_R dA d 34 9 [v0, v1, v2] (.null :: st) f Q = pz_R dA d 34 10 [v0, v1, .null] st f Q := pz_go (pz_so d34_9 rfl)
theorem d34_10 : decode (pz_b 34) 10 = .ok (.aload_n 2, 1) := by decide +kernel
theorem q34_10 {dA : Nat → ClassId} {d : Nat} {st : List Value} {f : pz_F} {Q : Option Value → pz_F → Prop} {v0 v1 : Value} {x : Nat} : pz_R dA d 34 10 [v0, v1, .ref x] st f Q = pz_R dA d 34 11 [v0, v1, .ref x] (.ref x :: st) f Q := pz_go (pz_so d34_10 rfl)
theorem q34_10n {dA : Nat → ClassId} {d : Nat} {st : List Value} {f : pz_F} {Q : Option Value → pz_F → Prop} {v0 v1 : Value} : pz_R dA d 34 10 [v0, v1, .null] st f Q = pz_R dA d 34 11 [v0, v1, .null] (.null :: st) f Q := pz_go (pz_so d34_10 rfl)
theorem d34_11 : decode (pz_b 34) 11 = .ok (.invokevirtual 151, 3) := by decide +kernel
theorem q34_11 {dA : Nat → ClassId} {d : Nat} {st : List Value} {f : pz_F} {Q : Option Value → pz_F → Prop} {v0 v1 v2 : Value} {b : Nat} (hr : st.length ≤ 4) : pz_R dA (d + 1) 34 11 [v0, v1, v2] (.ref b :: st) f Q = pz_o (pz_gu f b 1) (fun _ => pz_C dA d 36 [.ref b] f (fun r f' => pz_R dA (d + 1) 34 14 [v0, v1, v2] (r.toList ++ st) f' Q)) := pz_gcv (As := []) d34_11 rfl rfl rfl hr
theorem d34_14 : decode (pz_b 34) 14 = .ok (.ifCond .ne 4, 3) := by decide +kernel
theorem q34_14 {dA : Nat → ClassId} {d : Nat} {st : List Value} {f : pz_F} {Q : Option Value → pz_F → Prop} {v0 v1 v2 : Value} {x : Int32} : pz_R dA d 34 14 [v0, v1, v2] (.int x :: st) f Q = (if x = 0 then pz_R dA d 34 17 [v0, v1, v2] st f Q else pz_R dA d 34 18 [v0, v1, v2] st f Q) := pz_gj1 .ne d34_14 rfl
theorem d34_17 : decode (pz_b 34) 17 = .ok (.return_, 1) := by decide +kernel
theorem q34_17 {dA : Nat → ClassId} {d : Nat} {f : pz_F} {Q : Option Value → pz_F → Prop} {v0 v1 v2 : Value} : pz_R dA d 34 17 [v0, v1, v2] [] f Q = Q none f := pz_gr (pz_so d34_17 rfl)
theorem d34_18 : decode (pz_b 34) 18 = .ok (.aload_n 2, 1) := by decide +kernel
theorem q34_18 {dA : Nat → ClassId} {d : Nat} {st : List Value} {f : pz_F} {Q : Option Value → pz_F → Prop} {v0 v1 : Value} {x : Nat} : pz_R dA d 34 18 [v0, v1, .ref x] st f Q = pz_R dA d 34 19 [v0, v1, .ref x] (.ref x :: st) f Q := pz_go (pz_so d34_18 rfl)
theorem q34_18n {dA : Nat → ClassId} {d : Nat} {st : List Value} {f : pz_F} {Q : Option Value → pz_F → Prop} {v0 v1 : Value} : pz_R dA d 34 18 [v0, v1, .null] st f Q = pz_R dA d 34 19 [v0, v1, .null] (.null :: st) f Q := pz_go (pz_so d34_18 rfl)
theorem d34_19 : decode (pz_b 34) 19 = .ok (.aload_n 1, 1) := by decide +kernel
theorem q34_19 {dA : Nat → ClassId} {d : Nat} {st : List Value} {f : pz_F} {Q : Option Value → pz_F → Prop} {v0 v2 : Value} {x : Nat} : pz_R dA d 34 19 [v0, .ref x, v2] st f Q = pz_R dA d 34 20 [v0, .ref x, v2] (.ref x :: st) f Q := pz_go (pz_so d34_19 rfl)
theorem q34_19n {dA : Nat → ClassId} {d : Nat} {st : List Value} {f : pz_F} {Q : Option Value → pz_F → Prop} {v0 v2 : Value} : pz_R dA d 34 19 [v0, .null, v2] st f Q = pz_R dA d 34 20 [v0, .null, v2] (.null :: st) f Q := pz_go (pz_so d34_19 rfl)
theorem d34_20 : decode (pz_b 34) 20 = .ok (.getfield 204, 3) := by decide +kernel
theorem q34_20 {dA : Nat → ClassId} {d : Nat} {st : List Value} {f : pz_F} {Q : Option Value → pz_F → Prop} {v0 v1 v2 : Value} {a : Nat} : pz_R dA d 34 20 [v0, v1, v2] (.ref a :: st) f Q = pz_o (pz_gf f a 5 12) (fun v => pz_R dA d 34 23 [v0, v1, v2] (v :: st) f Q) := pz_gg d34_20 rfl
theorem d34_23 : decode (pz_b 34) 23 = .ok (.putfield 201, 3) := by decide +kernel
theorem q34_23 {dA : Nat → ClassId} {d : Nat} {st : List Value} {f : pz_F} {Q : Option Value → pz_F → Prop} {v0 v1 v2 : Value} {x : Int32} {a : Nat} : pz_R dA d 34 23 [v0, v1, v2] (.int x :: .ref a :: st) f Q = pz_o (pz_pf f a 1 5 (.int x)) (fun f' => pz_R dA d 34 26 [v0, v1, v2] st f' Q) := pz_gp d34_23 rfl rfl rfl rfl
theorem d34_26 : decode (pz_b 34) 26 = .ok (.aload_n 2, 1) := by decide +kernel
theorem q34_26 {dA : Nat → ClassId} {d : Nat} {st : List Value} {f : pz_F} {Q : Option Value → pz_F → Prop} {v0 v1 : Value} {x : Nat} : pz_R dA d 34 26 [v0, v1, .ref x] st f Q = pz_R dA d 34 27 [v0, v1, .ref x] (.ref x :: st) f Q := pz_go (pz_so d34_26 rfl)
theorem q34_26n {dA : Nat → ClassId} {d : Nat} {st : List Value} {f : pz_F} {Q : Option Value → pz_F → Prop} {v0 v1 : Value} : pz_R dA d 34 26 [v0, v1, .null] st f Q = pz_R dA d 34 27 [v0, v1, .null] (.null :: st) f Q := pz_go (pz_so d34_26 rfl)
theorem d34_27 : decode (pz_b 34) 27 = .ok (.aload_n 1, 1) := by decide +kernel
theorem q34_27 {dA : Nat → ClassId} {d : Nat} {st : List Value} {f : pz_F} {Q : Option Value → pz_F → Prop} {v0 v2 : Value} {x : Nat} : pz_R dA d 34 27 [v0, .ref x, v2] st f Q = pz_R dA d 34 28 [v0, .ref x, v2] (.ref x :: st) f Q := pz_go (pz_so d34_27 rfl)
theorem q34_27n {dA : Nat → ClassId} {d : Nat} {st : List Value} {f : pz_F} {Q : Option Value → pz_F → Prop} {v0 v2 : Value} : pz_R dA d 34 27 [v0, .null, v2] st f Q = pz_R dA d 34 28 [v0, .null, v2] (.null :: st) f Q := pz_go (pz_so d34_27 rfl)
theorem d34_28 : decode (pz_b 34) 28 = .ok (.getfield 207, 3) := by decide +kernel
theorem q34_28 {dA : Nat → ClassId} {d : Nat} {st : List Value} {f : pz_F} {Q : Option Value → pz_F → Prop} {v0 v1 v2 : Value} {a : Nat} : pz_R dA d 34 28 [v0, v1, v2] (.ref a :: st) f Q = pz_o (pz_gf f a 5 13) (fun v => pz_R dA d 34 31 [v0, v1, v2] (v :: st) f Q) := pz_gg d34_28 rfl
theorem d34_31 : decode (pz_b 34) 31 = .ok (.invokevirtual 275, 3) := by decide +kernel
theorem q34_31 {dA : Nat → ClassId} {d : Nat} {st : List Value} {f : pz_F} {Q : Option Value → pz_F → Prop} {v0 v1 v2 : Value} {c0 : Int32} {b : Nat} (hr : st.length ≤ 4) : pz_R dA (d + 1) 34 31 [v0, v1, v2] (.int c0 :: .ref b :: st) f Q = pz_o (pz_gu f b 1) (fun _ => pz_C dA d 43 [.ref b, .int c0] f (fun r f' => pz_R dA (d + 1) 34 34 [v0, v1, v2] (r.toList ++ st) f' Q)) := pz_gcv (As := [.int c0]) d34_31 rfl rfl rfl hr
theorem d34_34 : decode (pz_b 34) 34 = .ok (.aload_n 2, 1) := by decide +kernel
theorem q34_34 {dA : Nat → ClassId} {d : Nat} {st : List Value} {f : pz_F} {Q : Option Value → pz_F → Prop} {v0 v1 : Value} {x : Nat} : pz_R dA d 34 34 [v0, v1, .ref x] st f Q = pz_R dA d 34 35 [v0, v1, .ref x] (.ref x :: st) f Q := pz_go (pz_so d34_34 rfl)
theorem q34_34n {dA : Nat → ClassId} {d : Nat} {st : List Value} {f : pz_F} {Q : Option Value → pz_F → Prop} {v0 v1 : Value} : pz_R dA d 34 34 [v0, v1, .null] st f Q = pz_R dA d 34 35 [v0, v1, .null] (.null :: st) f Q := pz_go (pz_so d34_34 rfl)
theorem d34_35 : decode (pz_b 34) 35 = .ok (.getfield 46, 3) := by decide +kernel
theorem q34_35 {dA : Nat → ClassId} {d : Nat} {st : List Value} {f : pz_F} {Q : Option Value → pz_F → Prop} {v0 v1 v2 : Value} {a : Nat} : pz_R dA d 34 35 [v0, v1, v2] (.ref a :: st) f Q = pz_o (pz_gf f a 1 2) (fun v => pz_R dA d 34 38 [v0, v1, v2] (v :: st) f Q) := pz_gg d34_35 rfl
theorem d34_38 : decode (pz_b 34) 38 = .ok (.iconst 3, 1) := by decide +kernel
theorem q34_38 {dA : Nat → ClassId} {d : Nat} {st : List Value} {f : pz_F} {Q : Option Value → pz_F → Prop} {v0 v1 v2 : Value} : pz_R dA d 34 38 [v0, v1, v2] st f Q = pz_R dA d 34 39 [v0, v1, v2] (.int 3 :: st) f Q := pz_go (pz_so d34_38 rfl)
theorem d34_39 : decode (pz_b 34) 39 = .ok (.if_icmp .ne 8, 3) := by decide +kernel
theorem q34_39 {dA : Nat → ClassId} {d : Nat} {st : List Value} {f : pz_F} {Q : Option Value → pz_F → Prop} {v0 v1 v2 : Value} {x y : Int32} : pz_R dA d 34 39 [v0, v1, v2] (.int y :: .int x :: st) f Q = (if x = y then pz_R dA d 34 42 [v0, v1, v2] st f Q else pz_R dA d 34 47 [v0, v1, v2] st f Q) := pz_gjn .ne d34_39 rfl
theorem d34_42 : decode (pz_b 34) 42 = .ok (.aload_n 2, 1) := by decide +kernel
theorem q34_42 {dA : Nat → ClassId} {d : Nat} {st : List Value} {f : pz_F} {Q : Option Value → pz_F → Prop} {v0 v1 : Value} {x : Nat} : pz_R dA d 34 42 [v0, v1, .ref x] st f Q = pz_R dA d 34 43 [v0, v1, .ref x] (.ref x :: st) f Q := pz_go (pz_so d34_42 rfl)
theorem q34_42n {dA : Nat → ClassId} {d : Nat} {st : List Value} {f : pz_F} {Q : Option Value → pz_F → Prop} {v0 v1 : Value} : pz_R dA d 34 42 [v0, v1, .null] st f Q = pz_R dA d 34 43 [v0, v1, .null] (.null :: st) f Q := pz_go (pz_so d34_42 rfl)
theorem d34_43 : decode (pz_b 34) 43 = .ok (.iconst 1, 1) := by decide +kernel
theorem q34_43 {dA : Nat → ClassId} {d : Nat} {st : List Value} {f : pz_F} {Q : Option Value → pz_F → Prop} {v0 v1 v2 : Value} : pz_R dA d 34 43 [v0, v1, v2] st f Q = pz_R dA d 34 44 [v0, v1, v2] (.int 1 :: st) f Q := pz_go (pz_so d34_43 rfl)
theorem d34_44 : decode (pz_b 34) 44 = .ok (.putfield 46, 3) := by decide +kernel
theorem q34_44 {dA : Nat → ClassId} {d : Nat} {st : List Value} {f : pz_F} {Q : Option Value → pz_F → Prop} {v0 v1 v2 : Value} {x : Int32} {a : Nat} : pz_R dA d 34 44 [v0, v1, v2] (.int x :: .ref a :: st) f Q = pz_o (pz_pf f a 1 2 (.int x)) (fun f' => pz_R dA d 34 47 [v0, v1, v2] st f' Q) := pz_gp d34_44 rfl rfl rfl rfl
theorem d34_47 : decode (pz_b 34) 47 = .ok (.return_, 1) := by decide +kernel
theorem q34_47 {dA : Nat → ClassId} {d : Nat} {f : pz_F} {Q : Option Value → pz_F → Prop} {v0 v1 v2 : Value} : pz_R dA d 34 47 [v0, v1, v2] [] f Q = Q none f := pz_gr (pz_so d34_47 rfl)
