/-! X_asked (III)V -/
theorem e103 {dA : Nat → ClassId} {d : Nat} {f : pz_F} {Q : Option Value → pz_F → Prop} {a0 : Nat} {a1 : Int32} {a2 : Int32} {a3 : Int32} : pz_C dA d 103 [.ref a0, .int a1, .int a2, .int a3] f Q = pz_R dA d 103 0 [.ref a0, .int a1, .int a2, .int a3, .retAddr 0, .retAddr 0, .retAddr 0] [] f Q := rfl
theorem d103_0 : decode (pz_b 103) 0 = .ok (.aload_n 0, 1) := by decide +kernel
theorem q103_0 {dA : Nat → ClassId} {d : Nat} {st : List Value} {f : pz_F} {Q : Option Value → pz_F → Prop} {v1 v2 v3 v4 v5 v6 : Value} {x : Nat} : pz_R dA d 103 0 [.ref x, v1, v2, v3, v4, v5, v6] st f Q = pz_R dA d 103 1 [.ref x, v1, v2, v3, v4, v5, v6] (.ref x :: st) f Q := pz_go (pz_so d103_0 rfl)
theorem d103_1 : decode (pz_b 103) 1 = .ok (.iload_n 1, 1) := by decide +kernel
theorem q103_1 {dA : Nat → ClassId} {d : Nat} {st : List Value} {f : pz_F} {Q : Option Value → pz_F → Prop} {v0 v2 v3 v4 v5 v6 : Value} {x : Int32} : pz_R dA d 103 1 [v0, .int x, v2, v3, v4, v5, v6] st f Q = pz_R dA d 103 2 [v0, .int x, v2, v3, v4, v5, v6] (.int x :: st) f Q := pz_go (pz_so d103_1 rfl)
theorem d103_2 : decode (pz_b 103) 2 = .ok (.iload_n 2, 1) := by decide +kernel
theorem q103_2 {dA : Nat → ClassId} {d : Nat} {st : List Value} {f : pz_F} {Q : Option Value → pz_F → Prop} {v0 v1 v3 v4 v5 v6 : Value} {x : Int32} : pz_R dA d 103 2 [v0, v1, .int x, v3, v4, v5, v6] st f Q = pz_R dA d 103 3 [v0, v1, .int x, v3, v4, v5, v6] (.int x :: st) f Q := pz_go (pz_so d103_2 rfl)
theorem d103_3 : decode (pz_b 103) 3 = .ok (.invokevirtual 97, 3) := by decide +kernel
theorem q103_3 {dA : Nat → ClassId} {d : Nat} {st : List Value} {f : pz_F} {Q : Option Value → pz_F → Prop} {v0 v1 v2 v3 v4 v5 v6 : Value} {c0 : Int32} {c1 : Int32} {b : Nat} (hr : st.length ≤ 4) : pz_R dA (d + 1) 103 3 [v0, v1, v2, v3, v4, v5, v6] (.int c1 :: .int c0 :: .ref b :: st) f Q = pz_o (pz_gu f b 6) (fun _ => pz_C dA d 102 [.ref b, .int c0, .int c1] f (fun r f' => pz_R dA (d + 1) 103 6 [v0, v1, v2, v3, v4, v5, v6] (r.toList ++ st) f' Q)) := pz_gcv (As := [.int c0, .int c1]) d103_3 rfl rfl rfl hr
theorem d103_6 : decode (pz_b 103) 6 = .ok (.istore 4, 2) := by decide +kernel
theorem q103_6 {dA : Nat → ClassId} {d : Nat} {st : List Value} {f : pz_F} {Q : Option Value → pz_F → Prop} {v0 v1 v2 v3 v4 v5 v6 : Value} {x : Int32} : pz_R dA d 103 6 [v0, v1, v2, v3, v4, v5, v6] (.int x :: st) f Q = pz_R dA d 103 8 [v0, v1, v2, v3, .int x, v5, v6] st f Q := pz_go (pz_so d103_6 rfl)
theorem d103_8 : decode (pz_b 103) 8 = .ok (.iload 4, 2) := by decide +kernel
theorem q103_8 {dA : Nat → ClassId} {d : Nat} {st : List Value} {f : pz_F} {Q : Option Value → pz_F → Prop} {v0 v1 v2 v3 v5 v6 : Value} {x : Int32} : pz_R dA d 103 8 [v0, v1, v2, v3, .int x, v5, v6] st f Q = pz_R dA d 103 10 [v0, v1, v2, v3, .int x, v5, v6] (.int x :: st) f Q := pz_go (pz_so d103_8 rfl)
theorem d103_10 : decode (pz_b 103) 10 = .ok (.ifCond .ge 17, 3) := by decide +kernel
theorem q103_10 {dA : Nat → ClassId} {d : Nat} {st : List Value} {f : pz_F} {Q : Option Value → pz_F → Prop} {v0 v1 v2 v3 v4 v5 v6 : Value} {x : Int32} : pz_R dA d 103 10 [v0, v1, v2, v3, v4, v5, v6] (.int x :: st) f Q = (if 0 ≤ x then pz_R dA d 103 27 [v0, v1, v2, v3, v4, v5, v6] st f Q else pz_R dA d 103 13 [v0, v1, v2, v3, v4, v5, v6] st f Q) := pz_gj1 .ge d103_10 rfl
theorem d103_13 : decode (pz_b 103) 13 = .ok (.aload_n 0, 1) := by decide +kernel
theorem q103_13 {dA : Nat → ClassId} {d : Nat} {st : List Value} {f : pz_F} {Q : Option Value → pz_F → Prop} {v1 v2 v3 v4 v5 v6 : Value} {x : Nat} : pz_R dA d 103 13 [.ref x, v1, v2, v3, v4, v5, v6] st f Q = pz_R dA d 103 14 [.ref x, v1, v2, v3, v4, v5, v6] (.ref x :: st) f Q := pz_go (pz_so d103_13 rfl)
theorem d103_14 : decode (pz_b 103) 14 = .ok (.iconst 2, 1) := by decide +kernel
theorem q103_14 {dA : Nat → ClassId} {d : Nat} {st : List Value} {f : pz_F} {Q : Option Value → pz_F → Prop} {v0 v1 v2 v3 v4 v5 v6 : Value} : pz_R dA d 103 14 [v0, v1, v2, v3, v4, v5, v6] st f Q = pz_R dA d 103 15 [v0, v1, v2, v3, v4, v5, v6] (.int 2 :: st) f Q := pz_go (pz_so d103_14 rfl)
theorem d103_15 : decode (pz_b 103) 15 = .ok (.iload_n 1, 1) := by decide +kernel
theorem q103_15 {dA : Nat → ClassId} {d : Nat} {st : List Value} {f : pz_F} {Q : Option Value → pz_F → Prop} {v0 v2 v3 v4 v5 v6 : Value} {x : Int32} : pz_R dA d 103 15 [v0, .int x, v2, v3, v4, v5, v6] st f Q = pz_R dA d 103 16 [v0, .int x, v2, v3, v4, v5, v6] (.int x :: st) f Q := pz_go (pz_so d103_15 rfl)
theorem d103_16 : decode (pz_b 103) 16 = .ok (.iload_n 2, 1) := by decide +kernel
theorem q103_16 {dA : Nat → ClassId} {d : Nat} {st : List Value} {f : pz_F} {Q : Option Value → pz_F → Prop} {v0 v1 v3 v4 v5 v6 : Value} {x : Int32} : pz_R dA d 103 16 [v0, v1, .int x, v3, v4, v5, v6] st f Q = pz_R dA d 103 17 [v0, v1, .int x, v3, v4, v5, v6] (.int x :: st) f Q := pz_go (pz_so d103_16 rfl)
theorem d103_17 : decode (pz_b 103) 17 = .ok (.iload_n 3, 1) := by decide +kernel
theorem q103_17 {dA : Nat → ClassId} {d : Nat} {st : List Value} {f : pz_F} {Q : Option Value → pz_F → Prop} {v0 v1 v2 v4 v5 v6 : Value} {x : Int32} : pz_R dA d 103 17 [v0, v1, v2, .int x, v4, v5, v6] st f Q = pz_R dA d 103 18 [v0, v1, v2, .int x, v4, v5, v6] (.int x :: st) f Q := pz_go (pz_so d103_17 rfl)
theorem d103_18 : decode (pz_b 103) 18 = .ok (.iconst 0, 1) := by decide +kernel
theorem q103_18 {dA : Nat → ClassId} {d : Nat} {st : List Value} {f : pz_F} {Q : Option Value → pz_F → Prop} {v0 v1 v2 v3 v4 v5 v6 : Value} : pz_R dA d 103 18 [v0, v1, v2, v3, v4, v5, v6] st f Q = pz_R dA d 103 19 [v0, v1, v2, v3, v4, v5, v6] (.int 0 :: st) f Q := pz_go (pz_so d103_18 rfl)
theorem d103_19 : decode (pz_b 103) 19 = .ok (.invokevirtual 100, 3) := by decide +kernel
theorem q103_19 {dA : Nat → ClassId} {d : Nat} {st : List Value} {f : pz_F} {Q : Option Value → pz_F → Prop} {v0 v1 v2 v3 v4 v5 v6 : Value} {c0 : Int32} {c1 : Int32} {c2 : Int32} {c3 : Int32} {c4 : Int32} {b : Nat} (hr : st.length ≤ 4) : pz_R dA (d + 1) 103 19 [v0, v1, v2, v3, v4, v5, v6] (.int c4 :: .int c3 :: .int c2 :: .int c1 :: .int c0 :: .ref b :: st) f Q = pz_o (pz_gu f b 6) (fun _ => pz_C dA d 94 [.ref b, .int c0, .int c1, .int c2, .int c3, .int c4] f (fun r f' => pz_R dA (d + 1) 103 22 [v0, v1, v2, v3, v4, v5, v6] (r.toList ++ st) f' Q)) := pz_gcv (As := [.int c0, .int c1, .int c2, .int c3, .int c4]) d103_19 rfl rfl rfl hr
theorem d103_22 : decode (pz_b 103) 22 = .ok (.aload_n 0, 1) := by decide +kernel
theorem q103_22 {dA : Nat → ClassId} {d : Nat} {st : List Value} {f : pz_F} {Q : Option Value → pz_F → Prop} {v1 v2 v3 v4 v5 v6 : Value} {x : Nat} : pz_R dA d 103 22 [.ref x, v1, v2, v3, v4, v5, v6] st f Q = pz_R dA d 103 23 [.ref x, v1, v2, v3, v4, v5, v6] (.ref x :: st) f Q := pz_go (pz_so d103_22 rfl)
theorem d103_23 : decode (pz_b 103) 23 = .ok (.invokevirtual 104, 3) := by decide +kernel
theorem q103_23 {dA : Nat → ClassId} {d : Nat} {st : List Value} {f : pz_F} {Q : Option Value → pz_F → Prop} {v0 v1 v2 v3 v4 v5 v6 : Value} {b : Nat} (hr : st.length ≤ 4) : pz_R dA (d + 1) 103 23 [v0, v1, v2, v3, v4, v5, v6] (.ref b :: st) f Q = pz_o (pz_gu f b 6) (fun _ => pz_C dA d 95 [.ref b] f (fun r f' => pz_R dA (d + 1) 103 26 [v0, v1, v2, v3, v4, v5, v6] (r.toList ++ st) f' Q)) := pz_gcv (As := []) d103_23 rfl rfl rfl hr
theorem d103_26 : decode (pz_b 103) 26 = .ok (.return_, 1) := by decide +kernel
theorem q103_26 {dA : Nat → ClassId} {d : Nat} {f : pz_F} {Q : Option Value → pz_F → Prop} {v0 v1 v2 v3 v4 v5 v6 : Value} : pz_R dA d 103 26 [v0, v1, v2, v3, v4, v5, v6] [] f Q = Q none f := pz_gr (pz_so d103_26 rfl)
theorem d103_27 : decode (pz_b 103) 27 = .ok (.bipush 6, 2) := by decide +kernel
theorem q103_27 {dA : Nat → ClassId} {d : Nat} {st : List Value} {f : pz_F} {Q : Option Value → pz_F → Prop} {v0 v1 v2 v3 v4 v5 v6 : Value} : pz_R dA d 103 27 [v0, v1, v2, v3, v4, v5, v6] st f Q = pz_R dA d 103 29 [v0, v1, v2, v3, v4, v5, v6] (.int 6 :: st) f Q := pz_go (pz_so d103_27 rfl)
theorem d103_29 : decode (pz_b 103) 29 = .ok (.iload_n 1, 1) := by decide +kernel
theorem q103_29 {dA : Nat → ClassId} {d : Nat} {st : List Value} {f : pz_F} {Q : Option Value → pz_F → Prop} {v0 v2 v3 v4 v5 v6 : Value} {x : Int32} : pz_R dA d 103 29 [v0, .int x, v2, v3, v4, v5, v6] st f Q = pz_R dA d 103 30 [v0, .int x, v2, v3, v4, v5, v6] (.int x :: st) f Q := pz_go (pz_so d103_29 rfl)
theorem d103_30 : decode (pz_b 103) 30 = .ok (.imul, 1) := by decide +kernel
theorem q103_30 {dA : Nat → ClassId} {d : Nat} {st : List Value} {f : pz_F} {Q : Option Value → pz_F → Prop} {v0 v1 v2 v3 v4 v5 v6 : Value} {x y : Int32} : pz_R dA d 103 30 [v0, v1, v2, v3, v4, v5, v6] (.int y :: .int x :: st) f Q = pz_R dA d 103 31 [v0, v1, v2, v3, v4, v5, v6] (.int (x * y) :: st) f Q := pz_go (pz_so d103_30 rfl)
theorem d103_31 : decode (pz_b 103) 31 = .ok (.iload 4, 2) := by decide +kernel
theorem q103_31 {dA : Nat → ClassId} {d : Nat} {st : List Value} {f : pz_F} {Q : Option Value → pz_F → Prop} {v0 v1 v2 v3 v5 v6 : Value} {x : Int32} : pz_R dA d 103 31 [v0, v1, v2, v3, .int x, v5, v6] st f Q = pz_R dA d 103 33 [v0, v1, v2, v3, .int x, v5, v6] (.int x :: st) f Q := pz_go (pz_so d103_31 rfl)
theorem d103_33 : decode (pz_b 103) 33 = .ok (.iadd, 1) := by decide +kernel
theorem q103_33 {dA : Nat → ClassId} {d : Nat} {st : List Value} {f : pz_F} {Q : Option Value → pz_F → Prop} {v0 v1 v2 v3 v4 v5 v6 : Value} {x y : Int32} : pz_R dA d 103 33 [v0, v1, v2, v3, v4, v5, v6] (.int y :: .int x :: st) f Q = pz_R dA d 103 34 [v0, v1, v2, v3, v4, v5, v6] (.int (x + y) :: st) f Q := pz_go (pz_so d103_33 rfl)
theorem d103_34 : decode (pz_b 103) 34 = .ok (.istore 5, 2) := by decide +kernel
theorem q103_34 {dA : Nat → ClassId} {d : Nat} {st : List Value} {f : pz_F} {Q : Option Value → pz_F → Prop} {v0 v1 v2 v3 v4 v5 v6 : Value} {x : Int32} : pz_R dA d 103 34 [v0, v1, v2, v3, v4, v5, v6] (.int x :: st) f Q = pz_R dA d 103 36 [v0, v1, v2, v3, v4, .int x, v6] st f Q := pz_go (pz_so d103_34 rfl)
theorem d103_36 : decode (pz_b 103) 36 = .ok (.aload_n 0, 1) := by decide +kernel
theorem q103_36 {dA : Nat → ClassId} {d : Nat} {st : List Value} {f : pz_F} {Q : Option Value → pz_F → Prop} {v1 v2 v3 v4 v5 v6 : Value} {x : Nat} : pz_R dA d 103 36 [.ref x, v1, v2, v3, v4, v5, v6] st f Q = pz_R dA d 103 37 [.ref x, v1, v2, v3, v4, v5, v6] (.ref x :: st) f Q := pz_go (pz_so d103_36 rfl)
theorem d103_37 : decode (pz_b 103) 37 = .ok (.getfield 29, 3) := by decide +kernel
theorem q103_37 {dA : Nat → ClassId} {d : Nat} {st : List Value} {f : pz_F} {Q : Option Value → pz_F → Prop} {v0 v1 v2 v3 v4 v5 v6 : Value} {a : Nat} : pz_R dA d 103 37 [v0, v1, v2, v3, v4, v5, v6] (.ref a :: st) f Q = pz_o (pz_gf f a 6 7) (fun v => pz_R dA d 103 40 [v0, v1, v2, v3, v4, v5, v6] (v :: st) f Q) := pz_gg d103_37 rfl
theorem d103_40 : decode (pz_b 103) 40 = .ok (.iload 5, 2) := by decide +kernel
theorem q103_40 {dA : Nat → ClassId} {d : Nat} {st : List Value} {f : pz_F} {Q : Option Value → pz_F → Prop} {v0 v1 v2 v3 v4 v6 : Value} {x : Int32} : pz_R dA d 103 40 [v0, v1, v2, v3, v4, .int x, v6] st f Q = pz_R dA d 103 42 [v0, v1, v2, v3, v4, .int x, v6] (.int x :: st) f Q := pz_go (pz_so d103_40 rfl)
theorem d103_42 : decode (pz_b 103) 42 = .ok (.iaload, 1) := by decide +kernel
theorem q103_42 {dA : Nat → ClassId} {d : Nat} {st : List Value} {f : pz_F} {Q : Option Value → pz_F → Prop} {v0 v1 v2 v3 v4 v5 v6 : Value} {i : Int32} {a : Nat} : pz_R dA d 103 42 [v0, v1, v2, v3, v4, v5, v6] (.int i :: .ref a :: st) f Q = pz_o (pz_il (dA 0) f a i) (fun x => pz_R dA d 103 43 [v0, v1, v2, v3, v4, v5, v6] (.int x :: st) f Q) := pz_gil d103_42
theorem d103_43 : decode (pz_b 103) 43 = .ok (.iconst 1, 1) := by decide +kernel
theorem q103_43 {dA : Nat → ClassId} {d : Nat} {st : List Value} {f : pz_F} {Q : Option Value → pz_F → Prop} {v0 v1 v2 v3 v4 v5 v6 : Value} : pz_R dA d 103 43 [v0, v1, v2, v3, v4, v5, v6] st f Q = pz_R dA d 103 44 [v0, v1, v2, v3, v4, v5, v6] (.int 1 :: st) f Q := pz_go (pz_so d103_43 rfl)
theorem d103_44 : decode (pz_b 103) 44 = .ok (.if_icmp .ne 14, 3) := by decide +kernel
theorem q103_44 {dA : Nat → ClassId} {d : Nat} {st : List Value} {f : pz_F} {Q : Option Value → pz_F → Prop} {v0 v1 v2 v3 v4 v5 v6 : Value} {x y : Int32} : pz_R dA d 103 44 [v0, v1, v2, v3, v4, v5, v6] (.int y :: .int x :: st) f Q = (if x = y then pz_R dA d 103 47 [v0, v1, v2, v3, v4, v5, v6] st f Q else pz_R dA d 103 58 [v0, v1, v2, v3, v4, v5, v6] st f Q) := pz_gjn .ne d103_44 rfl
theorem d103_47 : decode (pz_b 103) 47 = .ok (.aload_n 0, 1) := by decide +kernel
theorem q103_47 {dA : Nat → ClassId} {d : Nat} {st : List Value} {f : pz_F} {Q : Option Value → pz_F → Prop} {v1 v2 v3 v4 v5 v6 : Value} {x : Nat} : pz_R dA d 103 47 [.ref x, v1, v2, v3, v4, v5, v6] st f Q = pz_R dA d 103 48 [.ref x, v1, v2, v3, v4, v5, v6] (.ref x :: st) f Q := pz_go (pz_so d103_47 rfl)
theorem d103_48 : decode (pz_b 103) 48 = .ok (.getfield 32, 3) := by decide +kernel
theorem q103_48 {dA : Nat → ClassId} {d : Nat} {st : List Value} {f : pz_F} {Q : Option Value → pz_F → Prop} {v0 v1 v2 v3 v4 v5 v6 : Value} {a : Nat} : pz_R dA d 103 48 [v0, v1, v2, v3, v4, v5, v6] (.ref a :: st) f Q = pz_o (pz_gf f a 6 8) (fun v => pz_R dA d 103 51 [v0, v1, v2, v3, v4, v5, v6] (v :: st) f Q) := pz_gg d103_48 rfl
theorem d103_51 : decode (pz_b 103) 51 = .ok (.iload 5, 2) := by decide +kernel
theorem q103_51 {dA : Nat → ClassId} {d : Nat} {st : List Value} {f : pz_F} {Q : Option Value → pz_F → Prop} {v0 v1 v2 v3 v4 v6 : Value} {x : Int32} : pz_R dA d 103 51 [v0, v1, v2, v3, v4, .int x, v6] st f Q = pz_R dA d 103 53 [v0, v1, v2, v3, v4, .int x, v6] (.int x :: st) f Q := pz_go (pz_so d103_51 rfl)
theorem d103_53 : decode (pz_b 103) 53 = .ok (.iaload, 1) := by decide +kernel
theorem q103_53 {dA : Nat → ClassId} {d : Nat} {st : List Value} {f : pz_F} {Q : Option Value → pz_F → Prop} {v0 v1 v2 v3 v4 v5 v6 : Value} {i : Int32} {a : Nat} : pz_R dA d 103 53 [v0, v1, v2, v3, v4, v5, v6] (.int i :: .ref a :: st) f Q = pz_o (pz_il (dA 0) f a i) (fun x => pz_R dA d 103 54 [v0, v1, v2, v3, v4, v5, v6] (.int x :: st) f Q) := pz_gil d103_53
theorem d103_54 : decode (pz_b 103) 54 = .ok (.iload_n 2, 1) := by decide +kernel
theorem q103_54 {dA : Nat → ClassId} {d : Nat} {st : List Value} {f : pz_F} {Q : Option Value → pz_F → Prop} {v0 v1 v3 v4 v5 v6 : Value} {x : Int32} : pz_R dA d 103 54 [v0, v1, .int x, v3, v4, v5, v6] st f Q = pz_R dA d 103 55 [v0, v1, .int x, v3, v4, v5, v6] (.int x :: st) f Q := pz_go (pz_so d103_54 rfl)
theorem d103_55 : decode (pz_b 103) 55 = .ok (.if_icmp .eq 38, 3) := by decide +kernel
theorem q103_55 {dA : Nat → ClassId} {d : Nat} {st : List Value} {f : pz_F} {Q : Option Value → pz_F → Prop} {v0 v1 v2 v3 v4 v5 v6 : Value} {x y : Int32} : pz_R dA d 103 55 [v0, v1, v2, v3, v4, v5, v6] (.int y :: .int x :: st) f Q = (if x = y then pz_R dA d 103 93 [v0, v1, v2, v3, v4, v5, v6] st f Q else pz_R dA d 103 58 [v0, v1, v2, v3, v4, v5, v6] st f Q) := pz_gjn .eq d103_55 rfl
theorem d103_58 : decode (pz_b 103) 58 = .ok (.aload_n 0, 1) := by decide +kernel
theorem q103_58 {dA : Nat → ClassId} {d : Nat} {st : List Value} {f : pz_F} {Q : Option Value → pz_F → Prop} {v1 v2 v3 v4 v5 v6 : Value} {x : Nat} : pz_R dA d 103 58 [.ref x, v1, v2, v3, v4, v5, v6] st f Q = pz_R dA d 103 59 [.ref x, v1, v2, v3, v4, v5, v6] (.ref x :: st) f Q := pz_go (pz_so d103_58 rfl)
theorem d103_59 : decode (pz_b 103) 59 = .ok (.getfield 44, 3) := by decide +kernel
theorem q103_59 {dA : Nat → ClassId} {d : Nat} {st : List Value} {f : pz_F} {Q : Option Value → pz_F → Prop} {v0 v1 v2 v3 v4 v5 v6 : Value} {a : Nat} : pz_R dA d 103 59 [v0, v1, v2, v3, v4, v5, v6] (.ref a :: st) f Q = pz_o (pz_gf f a 6 12) (fun v => pz_R dA d 103 62 [v0, v1, v2, v3, v4, v5, v6] (v :: st) f Q) := pz_gg d103_59 rfl
theorem d103_62 : decode (pz_b 103) 62 = .ok (.iload 5, 2) := by decide +kernel
theorem q103_62 {dA : Nat → ClassId} {d : Nat} {st : List Value} {f : pz_F} {Q : Option Value → pz_F → Prop} {v0 v1 v2 v3 v4 v6 : Value} {x : Int32} : pz_R dA d 103 62 [v0, v1, v2, v3, v4, .int x, v6] st f Q = pz_R dA d 103 64 [v0, v1, v2, v3, v4, .int x, v6] (.int x :: st) f Q := pz_go (pz_so d103_62 rfl)
theorem d103_64 : decode (pz_b 103) 64 = .ok (.dup2, 1) := by decide +kernel
theorem q103_64 {dA : Nat → ClassId} {d : Nat} {st : List Value} {f : pz_F} {Q : Option Value → pz_F → Prop} {v0 v1 v2 v3 v4 v5 v6 : Value} {x : Int32} {a : Nat} : pz_R dA d 103 64 [v0, v1, v2, v3, v4, v5, v6] (.int x :: .ref a :: st) f Q = pz_R dA d 103 65 [v0, v1, v2, v3, v4, v5, v6] (.int x :: .ref a :: .int x :: .ref a :: st) f Q := pz_go (pz_so d103_64 rfl)
theorem d103_65 : decode (pz_b 103) 65 = .ok (.iaload, 1) := by decide +kernel
theorem q103_65 {dA : Nat → ClassId} {d : Nat} {st : List Value} {f : pz_F} {Q : Option Value → pz_F → Prop} {v0 v1 v2 v3 v4 v5 v6 : Value} {i : Int32} {a : Nat} : pz_R dA d 103 65 [v0, v1, v2, v3, v4, v5, v6] (.int i :: .ref a :: st) f Q = pz_o (pz_il (dA 0) f a i) (fun x => pz_R dA d 103 66 [v0, v1, v2, v3, v4, v5, v6] (.int x :: st) f Q) := pz_gil d103_65
theorem d103_66 : decode (pz_b 103) 66 = .ok (.iconst 1, 1) := by decide +kernel
theorem q103_66 {dA : Nat → ClassId} {d : Nat} {st : List Value} {f : pz_F} {Q : Option Value → pz_F → Prop} {v0 v1 v2 v3 v4 v5 v6 : Value} : pz_R dA d 103 66 [v0, v1, v2, v3, v4, v5, v6] st f Q = pz_R dA d 103 67 [v0, v1, v2, v3, v4, v5, v6] (.int 1 :: st) f Q := pz_go (pz_so d103_66 rfl)
theorem d103_67 : decode (pz_b 103) 67 = .ok (.iadd, 1) := by decide +kernel
theorem q103_67 {dA : Nat → ClassId} {d : Nat} {st : List Value} {f : pz_F} {Q : Option Value → pz_F → Prop} {v0 v1 v2 v3 v4 v5 v6 : Value} {x y : Int32} : pz_R dA d 103 67 [v0, v1, v2, v3, v4, v5, v6] (.int y :: .int x :: st) f Q = pz_R dA d 103 68 [v0, v1, v2, v3, v4, v5, v6] (.int (x + y) :: st) f Q := pz_go (pz_so d103_67 rfl)
theorem d103_68 : decode (pz_b 103) 68 = .ok (.iastore, 1) := by decide +kernel
theorem q103_68 {dA : Nat → ClassId} {d : Nat} {st : List Value} {f : pz_F} {Q : Option Value → pz_F → Prop} {v0 v1 v2 v3 v4 v5 v6 : Value} {x i : Int32} {a : Nat} : pz_R dA d 103 68 [v0, v1, v2, v3, v4, v5, v6] (.int x :: .int i :: .ref a :: st) f Q = pz_o (pz_is (dA 0) f a i x) (fun f' => pz_R dA d 103 69 [v0, v1, v2, v3, v4, v5, v6] st f' Q) := pz_gis d103_68
theorem d103_69 : decode (pz_b 103) 69 = .ok (.aload_n 0, 1) := by decide +kernel
theorem q103_69 {dA : Nat → ClassId} {d : Nat} {st : List Value} {f : pz_F} {Q : Option Value → pz_F → Prop} {v1 v2 v3 v4 v5 v6 : Value} {x : Nat} : pz_R dA d 103 69 [.ref x, v1, v2, v3, v4, v5, v6] st f Q = pz_R dA d 103 70 [.ref x, v1, v2, v3, v4, v5, v6] (.ref x :: st) f Q := pz_go (pz_so d103_69 rfl)
theorem d103_70 : decode (pz_b 103) 70 = .ok (.getfield 35, 3) := by decide +kernel
theorem q103_70 {dA : Nat → ClassId} {d : Nat} {st : List Value} {f : pz_F} {Q : Option Value → pz_F → Prop} {v0 v1 v2 v3 v4 v5 v6 : Value} {a : Nat} : pz_R dA d 103 70 [v0, v1, v2, v3, v4, v5, v6] (.ref a :: st) f Q = pz_o (pz_gf f a 6 9) (fun v => pz_R dA d 103 73 [v0, v1, v2, v3, v4, v5, v6] (v :: st) f Q) := pz_gg d103_70 rfl
theorem d103_73 : decode (pz_b 103) 73 = .ok (.iload 5, 2) := by decide +kernel
theorem q103_73 {dA : Nat → ClassId} {d : Nat} {st : List Value} {f : pz_F} {Q : Option Value → pz_F → Prop} {v0 v1 v2 v3 v4 v6 : Value} {x : Int32} : pz_R dA d 103 73 [v0, v1, v2, v3, v4, .int x, v6] st f Q = pz_R dA d 103 75 [v0, v1, v2, v3, v4, .int x, v6] (.int x :: st) f Q := pz_go (pz_so d103_73 rfl)
theorem d103_75 : decode (pz_b 103) 75 = .ok (.iconst 0, 1) := by decide +kernel
theorem q103_75 {dA : Nat → ClassId} {d : Nat} {st : List Value} {f : pz_F} {Q : Option Value → pz_F → Prop} {v0 v1 v2 v3 v4 v5 v6 : Value} : pz_R dA d 103 75 [v0, v1, v2, v3, v4, v5, v6] st f Q = pz_R dA d 103 76 [v0, v1, v2, v3, v4, v5, v6] (.int 0 :: st) f Q := pz_go (pz_so d103_75 rfl)
theorem d103_76 : decode (pz_b 103) 76 = .ok (.iastore, 1) := by decide +kernel
theorem q103_76 {dA : Nat → ClassId} {d : Nat} {st : List Value} {f : pz_F} {Q : Option Value → pz_F → Prop} {v0 v1 v2 v3 v4 v5 v6 : Value} {x i : Int32} {a : Nat} : pz_R dA d 103 76 [v0, v1, v2, v3, v4, v5, v6] (.int x :: .int i :: .ref a :: st) f Q = pz_o (pz_is (dA 0) f a i x) (fun f' => pz_R dA d 103 77 [v0, v1, v2, v3, v4, v5, v6] st f' Q) := pz_gis d103_76
theorem d103_77 : decode (pz_b 103) 77 = .ok (.aload_n 0, 1) := by decide +kernel
theorem q103_77 {dA : Nat → ClassId} {d : Nat} {st : List Value} {f : pz_F} {Q : Option Value → pz_F → Prop} {v1 v2 v3 v4 v5 v6 : Value} {x : Nat} : pz_R dA d 103 77 [.ref x, v1, v2, v3, v4, v5, v6] st f Q = pz_R dA d 103 78 [.ref x, v1, v2, v3, v4, v5, v6] (.ref x :: st) f Q := pz_go (pz_so d103_77 rfl)
theorem d103_78 : decode (pz_b 103) 78 = .ok (.getfield 38, 3) := by decide +kernel
theorem q103_78 {dA : Nat → ClassId} {d : Nat} {st : List Value} {f : pz_F} {Q : Option Value → pz_F → Prop} {v0 v1 v2 v3 v4 v5 v6 : Value} {a : Nat} : pz_R dA d 103 78 [v0, v1, v2, v3, v4, v5, v6] (.ref a :: st) f Q = pz_o (pz_gf f a 6 10) (fun v => pz_R dA d 103 81 [v0, v1, v2, v3, v4, v5, v6] (v :: st) f Q) := pz_gg d103_78 rfl
theorem d103_81 : decode (pz_b 103) 81 = .ok (.iload 5, 2) := by decide +kernel
theorem q103_81 {dA : Nat → ClassId} {d : Nat} {st : List Value} {f : pz_F} {Q : Option Value → pz_F → Prop} {v0 v1 v2 v3 v4 v6 : Value} {x : Int32} : pz_R dA d 103 81 [v0, v1, v2, v3, v4, .int x, v6] st f Q = pz_R dA d 103 83 [v0, v1, v2, v3, v4, .int x, v6] (.int x :: st) f Q := pz_go (pz_so d103_81 rfl)
theorem d103_83 : decode (pz_b 103) 83 = .ok (.iconst 0, 1) := by decide +kernel
theorem q103_83 {dA : Nat → ClassId} {d : Nat} {st : List Value} {f : pz_F} {Q : Option Value → pz_F → Prop} {v0 v1 v2 v3 v4 v5 v6 : Value} : pz_R dA d 103 83 [v0, v1, v2, v3, v4, v5, v6] st f Q = pz_R dA d 103 84 [v0, v1, v2, v3, v4, v5, v6] (.int 0 :: st) f Q := pz_go (pz_so d103_83 rfl)
theorem d103_84 : decode (pz_b 103) 84 = .ok (.iastore, 1) := by decide +kernel
theorem q103_84 {dA : Nat → ClassId} {d : Nat} {st : List Value} {f : pz_F} {Q : Option Value → pz_F → Prop} {v0 v1 v2 v3 v4 v5 v6 : Value} {x i : Int32} {a : Nat} : pz_R dA d 103 84 [v0, v1, v2, v3, v4, v5, v6] (.int x :: .int i :: .ref a :: st) f Q = pz_o (pz_is (dA 0) f a i x) (fun f' => pz_R dA d 103 85 [v0, v1, v2, v3, v4, v5, v6] st f' Q) := pz_gis d103_84
theorem d103_85 : decode (pz_b 103) 85 = .ok (.aload_n 0, 1) := by decide +kernel
theorem q103_85 {dA : Nat → ClassId} {d : Nat} {st : List Value} {f : pz_F} {Q : Option Value → pz_F → Prop} {v1 v2 v3 v4 v5 v6 : Value} {x : Nat} : pz_R dA d 103 85 [.ref x, v1, v2, v3, v4, v5, v6] st f Q = pz_R dA d 103 86 [.ref x, v1, v2, v3, v4, v5, v6] (.ref x :: st) f Q := pz_go (pz_so d103_85 rfl)
theorem d103_86 : decode (pz_b 103) 86 = .ok (.getfield 41, 3) := by decide +kernel
theorem q103_86 {dA : Nat → ClassId} {d : Nat} {st : List Value} {f : pz_F} {Q : Option Value → pz_F → Prop} {v0 v1 v2 v3 v4 v5 v6 : Value} {a : Nat} : pz_R dA d 103 86 [v0, v1, v2, v3, v4, v5, v6] (.ref a :: st) f Q = pz_o (pz_gf f a 6 11) (fun v => pz_R dA d 103 89 [v0, v1, v2, v3, v4, v5, v6] (v :: st) f Q) := pz_gg d103_86 rfl
theorem d103_89 : decode (pz_b 103) 89 = .ok (.iload 5, 2) := by decide +kernel
theorem q103_89 {dA : Nat → ClassId} {d : Nat} {st : List Value} {f : pz_F} {Q : Option Value → pz_F → Prop} {v0 v1 v2 v3 v4 v6 : Value} {x : Int32} : pz_R dA d 103 89 [v0, v1, v2, v3, v4, .int x, v6] st f Q = pz_R dA d 103 91 [v0, v1, v2, v3, v4, .int x, v6] (.int x :: st) f Q := pz_go (pz_so d103_89 rfl)
theorem d103_91 : decode (pz_b 103) 91 = .ok (.iconst 0, 1) := by decide +kernel
theorem q103_91 {dA : Nat → ClassId} {d : Nat} {st : List Value} {f : pz_F} {Q : Option Value → pz_F → Prop} {v0 v1 v2 v3 v4 v5 v6 : Value} : pz_R dA d 103 91 [v0, v1, v2, v3, v4, v5, v6] st f Q = pz_R dA d 103 92 [v0, v1, v2, v3, v4, v5, v6] (.int 0 :: st) f Q := pz_go (pz_so d103_91 rfl)
theorem d103_92 : decode (pz_b 103) 92 = .ok (.iastore, 1) := by decide +kernel
theorem q103_92 {dA : Nat → ClassId} {d : Nat} {st : List Value} {f : pz_F} {Q : Option Value → pz_F → Prop} {v0 v1 v2 v3 v4 v5 v6 : Value} {x i : Int32} {a : Nat} : pz_R dA d 103 92 [v0, v1, v2, v3, v4, v5, v6] (.int x :: .int i :: .ref a :: st) f Q = pz_o (pz_is (dA 0) f a i x) (fun f' => pz_R dA d 103 93 [v0, v1, v2, v3, v4, v5, v6] st f' Q) := pz_gis d103_92
theorem d103_93 : decode (pz_b 103) 93 = .ok (.aload_n 0, 1) := by decide +kernel
theorem q103_93 {dA : Nat → ClassId} {d : Nat} {st : List Value} {f : pz_F} {Q : Option Value → pz_F → Prop} {v1 v2 v3 v4 v5 v6 : Value} {x : Nat} : pz_R dA d 103 93 [.ref x, v1, v2, v3, v4, v5, v6] st f Q = pz_R dA d 103 94 [.ref x, v1, v2, v3, v4, v5, v6] (.ref x :: st) f Q := pz_go (pz_so d103_93 rfl)
theorem d103_94 : decode (pz_b 103) 94 = .ok (.getfield 13, 3) := by decide +kernel
theorem q103_94 {dA : Nat → ClassId} {d : Nat} {st : List Value} {f : pz_F} {Q : Option Value → pz_F → Prop} {v0 v1 v2 v3 v4 v5 v6 : Value} {a : Nat} : pz_R dA d 103 94 [v0, v1, v2, v3, v4, v5, v6] (.ref a :: st) f Q = pz_o (pz_gf f a 6 2) (fun v => pz_R dA d 103 97 [v0, v1, v2, v3, v4, v5, v6] (v :: st) f Q) := pz_gg d103_94 rfl
theorem d103_97 : decode (pz_b 103) 97 = .ok (.iload_n 1, 1) := by decide +kernel
theorem q103_97 {dA : Nat → ClassId} {d : Nat} {st : List Value} {f : pz_F} {Q : Option Value → pz_F → Prop} {v0 v2 v3 v4 v5 v6 : Value} {x : Int32} : pz_R dA d 103 97 [v0, .int x, v2, v3, v4, v5, v6] st f Q = pz_R dA d 103 98 [v0, .int x, v2, v3, v4, v5, v6] (.int x :: st) f Q := pz_go (pz_so d103_97 rfl)
theorem d103_98 : decode (pz_b 103) 98 = .ok (.iaload, 1) := by decide +kernel
theorem q103_98 {dA : Nat → ClassId} {d : Nat} {st : List Value} {f : pz_F} {Q : Option Value → pz_F → Prop} {v0 v1 v2 v3 v4 v5 v6 : Value} {i : Int32} {a : Nat} : pz_R dA d 103 98 [v0, v1, v2, v3, v4, v5, v6] (.int i :: .ref a :: st) f Q = pz_o (pz_il (dA 0) f a i) (fun x => pz_R dA d 103 99 [v0, v1, v2, v3, v4, v5, v6] (.int x :: st) f Q) := pz_gil d103_98
theorem d103_99 : decode (pz_b 103) 99 = .ok (.iconst 3, 1) := by decide +kernel
theorem q103_99 {dA : Nat → ClassId} {d : Nat} {st : List Value} {f : pz_F} {Q : Option Value → pz_F → Prop} {v0 v1 v2 v3 v4 v5 v6 : Value} : pz_R dA d 103 99 [v0, v1, v2, v3, v4, v5, v6] st f Q = pz_R dA d 103 100 [v0, v1, v2, v3, v4, v5, v6] (.int 3 :: st) f Q := pz_go (pz_so d103_99 rfl)
theorem d103_100 : decode (pz_b 103) 100 = .ok (.if_icmp .ne 13, 3) := by decide +kernel
theorem q103_100 {dA : Nat → ClassId} {d : Nat} {st : List Value} {f : pz_F} {Q : Option Value → pz_F → Prop} {v0 v1 v2 v3 v4 v5 v6 : Value} {x y : Int32} : pz_R dA d 103 100 [v0, v1, v2, v3, v4, v5, v6] (.int y :: .int x :: st) f Q = (if x = y then pz_R dA d 103 103 [v0, v1, v2, v3, v4, v5, v6] st f Q else pz_R dA d 103 113 [v0, v1, v2, v3, v4, v5, v6] st f Q) := pz_gjn .ne d103_100 rfl
theorem d103_103 : decode (pz_b 103) 103 = .ok (.aload_n 0, 1) := by decide +kernel
theorem q103_103 {dA : Nat → ClassId} {d : Nat} {st : List Value} {f : pz_F} {Q : Option Value → pz_F → Prop} {v1 v2 v3 v4 v5 v6 : Value} {x : Nat} : pz_R dA d 103 103 [.ref x, v1, v2, v3, v4, v5, v6] st f Q = pz_R dA d 103 104 [.ref x, v1, v2, v3, v4, v5, v6] (.ref x :: st) f Q := pz_go (pz_so d103_103 rfl)
theorem d103_104 : decode (pz_b 103) 104 = .ok (.getfield 78, 3) := by decide +kernel
theorem q103_104 {dA : Nat → ClassId} {d : Nat} {st : List Value} {f : pz_F} {Q : Option Value → pz_F → Prop} {v0 v1 v2 v3 v4 v5 v6 : Value} {a : Nat} : pz_R dA d 103 104 [v0, v1, v2, v3, v4, v5, v6] (.ref a :: st) f Q = pz_o (pz_gf f a 6 0) (fun v => pz_R dA d 103 107 [v0, v1, v2, v3, v4, v5, v6] (v :: st) f Q) := pz_gg d103_104 rfl
theorem d103_107 : decode (pz_b 103) 107 = .ok (.bipush 20, 2) := by decide +kernel
theorem q103_107 {dA : Nat → ClassId} {d : Nat} {st : List Value} {f : pz_F} {Q : Option Value → pz_F → Prop} {v0 v1 v2 v3 v4 v5 v6 : Value} : pz_R dA d 103 107 [v0, v1, v2, v3, v4, v5, v6] st f Q = pz_R dA d 103 109 [v0, v1, v2, v3, v4, v5, v6] (.int 20 :: st) f Q := pz_go (pz_so d103_107 rfl)
theorem d103_109 : decode (pz_b 103) 109 = .ok (.iadd, 1) := by decide +kernel
theorem q103_109 {dA : Nat → ClassId} {d : Nat} {st : List Value} {f : pz_F} {Q : Option Value → pz_F → Prop} {v0 v1 v2 v3 v4 v5 v6 : Value} {x y : Int32} : pz_R dA d 103 109 [v0, v1, v2, v3, v4, v5, v6] (.int y :: .int x :: st) f Q = pz_R dA d 103 110 [v0, v1, v2, v3, v4, v5, v6] (.int (x + y) :: st) f Q := pz_go (pz_so d103_109 rfl)
theorem d103_110 : decode (pz_b 103) 110 = .ok (.goto 30, 3) := by decide +kernel
theorem q103_110 {dA : Nat → ClassId} {d : Nat} {st : List Value} {f : pz_F} {Q : Option Value → pz_F → Prop} {v0 v1 v2 v3 v4 v5 v6 : Value} : pz_R dA d 103 110 [v0, v1, v2, v3, v4, v5, v6] st f Q = pz_R dA d 103 140 [v0, v1, v2, v3, v4, v5, v6] st f Q := pz_go (pz_so d103_110 rfl)
theorem d103_113 : decode (pz_b 103) 113 = .ok (.aload_n 0, 1) := by decide +kernel
theorem q103_113 {dA : Nat → ClassId} {d : Nat} {st : List Value} {f : pz_F} {Q : Option Value → pz_F → Prop} {v1 v2 v3 v4 v5 v6 : Value} {x : Nat} : pz_R dA d 103 113 [.ref x, v1, v2, v3, v4, v5, v6] st f Q = pz_R dA d 103 114 [.ref x, v1, v2, v3, v4, v5, v6] (.ref x :: st) f Q := pz_go (pz_so d103_113 rfl)
theorem d103_114 : decode (pz_b 103) 114 = .ok (.getfield 78, 3) := by decide +kernel
theorem q103_114 {dA : Nat → ClassId} {d : Nat} {st : List Value} {f : pz_F} {Q : Option Value → pz_F → Prop} {v0 v1 v2 v3 v4 v5 v6 : Value} {a : Nat} : pz_R dA d 103 114 [v0, v1, v2, v3, v4, v5, v6] (.ref a :: st) f Q = pz_o (pz_gf f a 6 0) (fun v => pz_R dA d 103 117 [v0, v1, v2, v3, v4, v5, v6] (v :: st) f Q) := pz_gg d103_114 rfl
theorem d103_117 : decode (pz_b 103) 117 = .ok (.bipush 20, 2) := by decide +kernel
theorem q103_117 {dA : Nat → ClassId} {d : Nat} {st : List Value} {f : pz_F} {Q : Option Value → pz_F → Prop} {v0 v1 v2 v3 v4 v5 v6 : Value} : pz_R dA d 103 117 [v0, v1, v2, v3, v4, v5, v6] st f Q = pz_R dA d 103 119 [v0, v1, v2, v3, v4, v5, v6] (.int 20 :: st) f Q := pz_go (pz_so d103_117 rfl)
theorem d103_119 : decode (pz_b 103) 119 = .ok (.iadd, 1) := by decide +kernel
theorem q103_119 {dA : Nat → ClassId} {d : Nat} {st : List Value} {f : pz_F} {Q : Option Value → pz_F → Prop} {v0 v1 v2 v3 v4 v5 v6 : Value} {x y : Int32} : pz_R dA d 103 119 [v0, v1, v2, v3, v4, v5, v6] (.int y :: .int x :: st) f Q = pz_R dA d 103 120 [v0, v1, v2, v3, v4, v5, v6] (.int (x + y) :: st) f Q := pz_go (pz_so d103_119 rfl)
theorem d103_120 : decode (pz_b 103) 120 = .ok (.aload_n 0, 1) := by decide +kernel
theorem q103_120 {dA : Nat → ClassId} {d : Nat} {st : List Value} {f : pz_F} {Q : Option Value → pz_F → Prop} {v1 v2 v3 v4 v5 v6 : Value} {x : Nat} : pz_R dA d 103 120 [.ref x, v1, v2, v3, v4, v5, v6] st f Q = pz_R dA d 103 121 [.ref x, v1, v2, v3, v4, v5, v6] (.ref x :: st) f Q := pz_go (pz_so d103_120 rfl)
theorem d103_121 : decode (pz_b 103) 121 = .ok (.getfield 78, 3) := by decide +kernel
theorem q103_121 {dA : Nat → ClassId} {d : Nat} {st : List Value} {f : pz_F} {Q : Option Value → pz_F → Prop} {v0 v1 v2 v3 v4 v5 v6 : Value} {a : Nat} : pz_R dA d 103 121 [v0, v1, v2, v3, v4, v5, v6] (.ref a :: st) f Q = pz_o (pz_gf f a 6 0) (fun v => pz_R dA d 103 124 [v0, v1, v2, v3, v4, v5, v6] (v :: st) f Q) := pz_gg d103_121 rfl
theorem d103_124 : decode (pz_b 103) 124 = .ok (.aload_n 0, 1) := by decide +kernel
theorem q103_124 {dA : Nat → ClassId} {d : Nat} {st : List Value} {f : pz_F} {Q : Option Value → pz_F → Prop} {v1 v2 v3 v4 v5 v6 : Value} {x : Nat} : pz_R dA d 103 124 [.ref x, v1, v2, v3, v4, v5, v6] st f Q = pz_R dA d 103 125 [.ref x, v1, v2, v3, v4, v5, v6] (.ref x :: st) f Q := pz_go (pz_so d103_124 rfl)
theorem d103_125 : decode (pz_b 103) 125 = .ok (.getfield 38, 3) := by decide +kernel
theorem q103_125 {dA : Nat → ClassId} {d : Nat} {st : List Value} {f : pz_F} {Q : Option Value → pz_F → Prop} {v0 v1 v2 v3 v4 v5 v6 : Value} {a : Nat} : pz_R dA d 103 125 [v0, v1, v2, v3, v4, v5, v6] (.ref a :: st) f Q = pz_o (pz_gf f a 6 10) (fun v => pz_R dA d 103 128 [v0, v1, v2, v3, v4, v5, v6] (v :: st) f Q) := pz_gg d103_125 rfl
theorem d103_128 : decode (pz_b 103) 128 = .ok (.iload 5, 2) := by decide +kernel
theorem q103_128 {dA : Nat → ClassId} {d : Nat} {st : List Value} {f : pz_F} {Q : Option Value → pz_F → Prop} {v0 v1 v2 v3 v4 v6 : Value} {x : Int32} : pz_R dA d 103 128 [v0, v1, v2, v3, v4, .int x, v6] st f Q = pz_R dA d 103 130 [v0, v1, v2, v3, v4, .int x, v6] (.int x :: st) f Q := pz_go (pz_so d103_128 rfl)
theorem d103_130 : decode (pz_b 103) 130 = .ok (.iaload, 1) := by decide +kernel
theorem q103_130 {dA : Nat → ClassId} {d : Nat} {st : List Value} {f : pz_F} {Q : Option Value → pz_F → Prop} {v0 v1 v2 v3 v4 v5 v6 : Value} {i : Int32} {a : Nat} : pz_R dA d 103 130 [v0, v1, v2, v3, v4, v5, v6] (.int i :: .ref a :: st) f Q = pz_o (pz_il (dA 0) f a i) (fun x => pz_R dA d 103 131 [v0, v1, v2, v3, v4, v5, v6] (.int x :: st) f Q) := pz_gil d103_130
theorem d103_131 : decode (pz_b 103) 131 = .ok (.invokestatic 107, 3) := by decide +kernel
theorem q103_131 {dA : Nat → ClassId} {d : Nat} {st : List Value} {f : pz_F} {Q : Option Value → pz_F → Prop} {v0 v1 v2 v3 v4 v5 v6 : Value} {c0 : Int32} {c1 : Int32} (hr : st.length ≤ 4) : pz_R dA (d + 1) 103 131 [v0, v1, v2, v3, v4, v5, v6] (.int c1 :: .int c0 :: st) f Q = pz_C dA d 92 [.int c0, .int c1] f (fun r f' => pz_R dA (d + 1) 103 134 [v0, v1, v2, v3, v4, v5, v6] (r.toList ++ st) f' Q) := pz_gcs (As := [.int c0, .int c1]) d103_131 rfl rfl rfl hr
theorem d103_134 : decode (pz_b 103) 134 = .ok (.bipush 6, 2) := by decide +kernel
theorem q103_134 {dA : Nat → ClassId} {d : Nat} {st : List Value} {f : pz_F} {Q : Option Value → pz_F → Prop} {v0 v1 v2 v3 v4 v5 v6 : Value} : pz_R dA d 103 134 [v0, v1, v2, v3, v4, v5, v6] st f Q = pz_R dA d 103 136 [v0, v1, v2, v3, v4, v5, v6] (.int 6 :: st) f Q := pz_go (pz_so d103_134 rfl)
theorem d103_136 : decode (pz_b 103) 136 = .ok (.iadd, 1) := by decide +kernel
theorem q103_136 {dA : Nat → ClassId} {d : Nat} {st : List Value} {f : pz_F} {Q : Option Value → pz_F → Prop} {v0 v1 v2 v3 v4 v5 v6 : Value} {x y : Int32} : pz_R dA d 103 136 [v0, v1, v2, v3, v4, v5, v6] (.int y :: .int x :: st) f Q = pz_R dA d 103 137 [v0, v1, v2, v3, v4, v5, v6] (.int (x + y) :: st) f Q := pz_go (pz_so d103_136 rfl)
theorem d103_137 : decode (pz_b 103) 137 = .ok (.invokestatic 110, 3) := by decide +kernel
theorem q103_137 {dA : Nat → ClassId} {d : Nat} {st : List Value} {f : pz_F} {Q : Option Value → pz_F → Prop} {v0 v1 v2 v3 v4 v5 v6 : Value} {c0 : Int32} {c1 : Int32} (hr : st.length ≤ 4) : pz_R dA (d + 1) 103 137 [v0, v1, v2, v3, v4, v5, v6] (.int c1 :: .int c0 :: st) f Q = pz_C dA d 93 [.int c0, .int c1] f (fun r f' => pz_R dA (d + 1) 103 140 [v0, v1, v2, v3, v4, v5, v6] (r.toList ++ st) f' Q) := pz_gcs (As := [.int c0, .int c1]) d103_137 rfl rfl rfl hr
theorem d103_140 : decode (pz_b 103) 140 = .ok (.istore 6, 2) := by decide +kernel
theorem q103_140 {dA : Nat → ClassId} {d : Nat} {st : List Value} {f : pz_F} {Q : Option Value → pz_F → Prop} {v0 v1 v2 v3 v4 v5 v6 : Value} {x : Int32} : pz_R dA d 103 140 [v0, v1, v2, v3, v4, v5, v6] (.int x :: st) f Q = pz_R dA d 103 142 [v0, v1, v2, v3, v4, v5, .int x] st f Q := pz_go (pz_so d103_140 rfl)
theorem d103_142 : decode (pz_b 103) 142 = .ok (.aload_n 0, 1) := by decide +kernel
theorem q103_142 {dA : Nat → ClassId} {d : Nat} {st : List Value} {f : pz_F} {Q : Option Value → pz_F → Prop} {v1 v2 v3 v4 v5 v6 : Value} {x : Nat} : pz_R dA d 103 142 [.ref x, v1, v2, v3, v4, v5, v6] st f Q = pz_R dA d 103 143 [.ref x, v1, v2, v3, v4, v5, v6] (.ref x :: st) f Q := pz_go (pz_so d103_142 rfl)
theorem d103_143 : decode (pz_b 103) 143 = .ok (.getfield 35, 3) := by decide +kernel
theorem q103_143 {dA : Nat → ClassId} {d : Nat} {st : List Value} {f : pz_F} {Q : Option Value → pz_F → Prop} {v0 v1 v2 v3 v4 v5 v6 : Value} {a : Nat} : pz_R dA d 103 143 [v0, v1, v2, v3, v4, v5, v6] (.ref a :: st) f Q = pz_o (pz_gf f a 6 9) (fun v => pz_R dA d 103 146 [v0, v1, v2, v3, v4, v5, v6] (v :: st) f Q) := pz_gg d103_143 rfl
theorem d103_146 : decode (pz_b 103) 146 = .ok (.iload 5, 2) := by decide +kernel
theorem q103_146 {dA : Nat → ClassId} {d : Nat} {st : List Value} {f : pz_F} {Q : Option Value → pz_F → Prop} {v0 v1 v2 v3 v4 v6 : Value} {x : Int32} : pz_R dA d 103 146 [v0, v1, v2, v3, v4, .int x, v6] st f Q = pz_R dA d 103 148 [v0, v1, v2, v3, v4, .int x, v6] (.int x :: st) f Q := pz_go (pz_so d103_146 rfl)
theorem d103_148 : decode (pz_b 103) 148 = .ok (.aload_n 0, 1) := by decide +kernel
theorem q103_148 {dA : Nat → ClassId} {d : Nat} {st : List Value} {f : pz_F} {Q : Option Value → pz_F → Prop} {v1 v2 v3 v4 v5 v6 : Value} {x : Nat} : pz_R dA d 103 148 [.ref x, v1, v2, v3, v4, v5, v6] st f Q = pz_R dA d 103 149 [.ref x, v1, v2, v3, v4, v5, v6] (.ref x :: st) f Q := pz_go (pz_so d103_148 rfl)
theorem d103_149 : decode (pz_b 103) 149 = .ok (.getfield 35, 3) := by decide +kernel
theorem q103_149 {dA : Nat → ClassId} {d : Nat} {st : List Value} {f : pz_F} {Q : Option Value → pz_F → Prop} {v0 v1 v2 v3 v4 v5 v6 : Value} {a : Nat} : pz_R dA d 103 149 [v0, v1, v2, v3, v4, v5, v6] (.ref a :: st) f Q = pz_o (pz_gf f a 6 9) (fun v => pz_R dA d 103 152 [v0, v1, v2, v3, v4, v5, v6] (v :: st) f Q) := pz_gg d103_149 rfl
theorem d103_152 : decode (pz_b 103) 152 = .ok (.iload 5, 2) := by decide +kernel
theorem q103_152 {dA : Nat → ClassId} {d : Nat} {st : List Value} {f : pz_F} {Q : Option Value → pz_F → Prop} {v0 v1 v2 v3 v4 v6 : Value} {x : Int32} : pz_R dA d 103 152 [v0, v1, v2, v3, v4, .int x, v6] st f Q = pz_R dA d 103 154 [v0, v1, v2, v3, v4, .int x, v6] (.int x :: st) f Q := pz_go (pz_so d103_152 rfl)
theorem d103_154 : decode (pz_b 103) 154 = .ok (.iaload, 1) := by decide +kernel
theorem q103_154 {dA : Nat → ClassId} {d : Nat} {st : List Value} {f : pz_F} {Q : Option Value → pz_F → Prop} {v0 v1 v2 v3 v4 v5 v6 : Value} {i : Int32} {a : Nat} : pz_R dA d 103 154 [v0, v1, v2, v3, v4, v5, v6] (.int i :: .ref a :: st) f Q = pz_o (pz_il (dA 0) f a i) (fun x => pz_R dA d 103 155 [v0, v1, v2, v3, v4, v5, v6] (.int x :: st) f Q) := pz_gil d103_154
theorem d103_155 : decode (pz_b 103) 155 = .ok (.iload 6, 2) := by decide +kernel
theorem q103_155 {dA : Nat → ClassId} {d : Nat} {st : List Value} {f : pz_F} {Q : Option Value → pz_F → Prop} {v0 v1 v2 v3 v4 v5 : Value} {x : Int32} : pz_R dA d 103 155 [v0, v1, v2, v3, v4, v5, .int x] st f Q = pz_R dA d 103 157 [v0, v1, v2, v3, v4, v5, .int x] (.int x :: st) f Q := pz_go (pz_so d103_155 rfl)
theorem d103_157 : decode (pz_b 103) 157 = .ok (.invokestatic 107, 3) := by decide +kernel
theorem q103_157 {dA : Nat → ClassId} {d : Nat} {st : List Value} {f : pz_F} {Q : Option Value → pz_F → Prop} {v0 v1 v2 v3 v4 v5 v6 : Value} {c0 : Int32} {c1 : Int32} (hr : st.length ≤ 4) : pz_R dA (d + 1) 103 157 [v0, v1, v2, v3, v4, v5, v6] (.int c1 :: .int c0 :: st) f Q = pz_C dA d 92 [.int c0, .int c1] f (fun r f' => pz_R dA (d + 1) 103 160 [v0, v1, v2, v3, v4, v5, v6] (r.toList ++ st) f' Q) := pz_gcs (As := [.int c0, .int c1]) d103_157 rfl rfl rfl hr
theorem d103_160 : decode (pz_b 103) 160 = .ok (.iastore, 1) := by decide +kernel
theorem q103_160 {dA : Nat → ClassId} {d : Nat} {st : List Value} {f : pz_F} {Q : Option Value → pz_F → Prop} {v0 v1 v2 v3 v4 v5 v6 : Value} {x i : Int32} {a : Nat} : pz_R dA d 103 160 [v0, v1, v2, v3, v4, v5, v6] (.int x :: .int i :: .ref a :: st) f Q = pz_o (pz_is (dA 0) f a i x) (fun f' => pz_R dA d 103 161 [v0, v1, v2, v3, v4, v5, v6] st f' Q) := pz_gis d103_160
theorem d103_161 : decode (pz_b 103) 161 = .ok (.aload_n 0, 1) := by decide +kernel
theorem q103_161 {dA : Nat → ClassId} {d : Nat} {st : List Value} {f : pz_F} {Q : Option Value → pz_F → Prop} {v1 v2 v3 v4 v5 v6 : Value} {x : Nat} : pz_R dA d 103 161 [.ref x, v1, v2, v3, v4, v5, v6] st f Q = pz_R dA d 103 162 [.ref x, v1, v2, v3, v4, v5, v6] (.ref x :: st) f Q := pz_go (pz_so d103_161 rfl)
theorem d103_162 : decode (pz_b 103) 162 = .ok (.getfield 29, 3) := by decide +kernel
theorem q103_162 {dA : Nat → ClassId} {d : Nat} {st : List Value} {f : pz_F} {Q : Option Value → pz_F → Prop} {v0 v1 v2 v3 v4 v5 v6 : Value} {a : Nat} : pz_R dA d 103 162 [v0, v1, v2, v3, v4, v5, v6] (.ref a :: st) f Q = pz_o (pz_gf f a 6 7) (fun v => pz_R dA d 103 165 [v0, v1, v2, v3, v4, v5, v6] (v :: st) f Q) := pz_gg d103_162 rfl
theorem d103_165 : decode (pz_b 103) 165 = .ok (.iload 5, 2) := by decide +kernel
theorem q103_165 {dA : Nat → ClassId} {d : Nat} {st : List Value} {f : pz_F} {Q : Option Value → pz_F → Prop} {v0 v1 v2 v3 v4 v6 : Value} {x : Int32} : pz_R dA d 103 165 [v0, v1, v2, v3, v4, .int x, v6] st f Q = pz_R dA d 103 167 [v0, v1, v2, v3, v4, .int x, v6] (.int x :: st) f Q := pz_go (pz_so d103_165 rfl)
theorem d103_167 : decode (pz_b 103) 167 = .ok (.iconst 1, 1) := by decide +kernel
theorem q103_167 {dA : Nat → ClassId} {d : Nat} {st : List Value} {f : pz_F} {Q : Option Value → pz_F → Prop} {v0 v1 v2 v3 v4 v5 v6 : Value} : pz_R dA d 103 167 [v0, v1, v2, v3, v4, v5, v6] st f Q = pz_R dA d 103 168 [v0, v1, v2, v3, v4, v5, v6] (.int 1 :: st) f Q := pz_go (pz_so d103_167 rfl)
theorem d103_168 : decode (pz_b 103) 168 = .ok (.iastore, 1) := by decide +kernel
theorem q103_168 {dA : Nat → ClassId} {d : Nat} {st : List Value} {f : pz_F} {Q : Option Value → pz_F → Prop} {v0 v1 v2 v3 v4 v5 v6 : Value} {x i : Int32} {a : Nat} : pz_R dA d 103 168 [v0, v1, v2, v3, v4, v5, v6] (.int x :: .int i :: .ref a :: st) f Q = pz_o (pz_is (dA 0) f a i x) (fun f' => pz_R dA d 103 169 [v0, v1, v2, v3, v4, v5, v6] st f' Q) := pz_gis d103_168
theorem d103_169 : decode (pz_b 103) 169 = .ok (.aload_n 0, 1) := by decide +kernel
theorem q103_169 {dA : Nat → ClassId} {d : Nat} {st : List Value} {f : pz_F} {Q : Option Value → pz_F → Prop} {v1 v2 v3 v4 v5 v6 : Value} {x : Nat} : pz_R dA d 103 169 [.ref x, v1, v2, v3, v4, v5, v6] st f Q = pz_R dA d 103 170 [.ref x, v1, v2, v3, v4, v5, v6] (.ref x :: st) f Q := pz_go (pz_so d103_169 rfl)
theorem d103_170 : decode (pz_b 103) 170 = .ok (.getfield 32, 3) := by decide +kernel
theorem q103_170 {dA : Nat → ClassId} {d : Nat} {st : List Value} {f : pz_F} {Q : Option Value → pz_F → Prop} {v0 v1 v2 v3 v4 v5 v6 : Value} {a : Nat} : pz_R dA d 103 170 [v0, v1, v2, v3, v4, v5, v6] (.ref a :: st) f Q = pz_o (pz_gf f a 6 8) (fun v => pz_R dA d 103 173 [v0, v1, v2, v3, v4, v5, v6] (v :: st) f Q) := pz_gg d103_170 rfl
theorem d103_173 : decode (pz_b 103) 173 = .ok (.iload 5, 2) := by decide +kernel
theorem q103_173 {dA : Nat → ClassId} {d : Nat} {st : List Value} {f : pz_F} {Q : Option Value → pz_F → Prop} {v0 v1 v2 v3 v4 v6 : Value} {x : Int32} : pz_R dA d 103 173 [v0, v1, v2, v3, v4, .int x, v6] st f Q = pz_R dA d 103 175 [v0, v1, v2, v3, v4, .int x, v6] (.int x :: st) f Q := pz_go (pz_so d103_173 rfl)
theorem d103_175 : decode (pz_b 103) 175 = .ok (.iload_n 2, 1) := by decide +kernel
theorem q103_175 {dA : Nat → ClassId} {d : Nat} {st : List Value} {f : pz_F} {Q : Option Value → pz_F → Prop} {v0 v1 v3 v4 v5 v6 : Value} {x : Int32} : pz_R dA d 103 175 [v0, v1, .int x, v3, v4, v5, v6] st f Q = pz_R dA d 103 176 [v0, v1, .int x, v3, v4, v5, v6] (.int x :: st) f Q := pz_go (pz_so d103_175 rfl)
theorem d103_176 : decode (pz_b 103) 176 = .ok (.iastore, 1) := by decide +kernel
theorem q103_176 {dA : Nat → ClassId} {d : Nat} {st : List Value} {f : pz_F} {Q : Option Value → pz_F → Prop} {v0 v1 v2 v3 v4 v5 v6 : Value} {x i : Int32} {a : Nat} : pz_R dA d 103 176 [v0, v1, v2, v3, v4, v5, v6] (.int x :: .int i :: .ref a :: st) f Q = pz_o (pz_is (dA 0) f a i x) (fun f' => pz_R dA d 103 177 [v0, v1, v2, v3, v4, v5, v6] st f' Q) := pz_gis d103_176
theorem d103_177 : decode (pz_b 103) 177 = .ok (.aload_n 0, 1) := by decide +kernel
theorem q103_177 {dA : Nat → ClassId} {d : Nat} {st : List Value} {f : pz_F} {Q : Option Value → pz_F → Prop} {v1 v2 v3 v4 v5 v6 : Value} {x : Nat} : pz_R dA d 103 177 [.ref x, v1, v2, v3, v4, v5, v6] st f Q = pz_R dA d 103 178 [.ref x, v1, v2, v3, v4, v5, v6] (.ref x :: st) f Q := pz_go (pz_so d103_177 rfl)
theorem d103_178 : decode (pz_b 103) 178 = .ok (.iload 5, 2) := by decide +kernel
theorem q103_178 {dA : Nat → ClassId} {d : Nat} {st : List Value} {f : pz_F} {Q : Option Value → pz_F → Prop} {v0 v1 v2 v3 v4 v6 : Value} {x : Int32} : pz_R dA d 103 178 [v0, v1, v2, v3, v4, .int x, v6] st f Q = pz_R dA d 103 180 [v0, v1, v2, v3, v4, .int x, v6] (.int x :: st) f Q := pz_go (pz_so d103_178 rfl)
theorem d103_180 : decode (pz_b 103) 180 = .ok (.invokevirtual 113, 3) := by decide +kernel
theorem q103_180 {dA : Nat → ClassId} {d : Nat} {st : List Value} {f : pz_F} {Q : Option Value → pz_F → Prop} {v0 v1 v2 v3 v4 v5 v6 : Value} {c0 : Int32} {b : Nat} (hr : st.length ≤ 4) : pz_R dA (d + 1) 103 180 [v0, v1, v2, v3, v4, v5, v6] (.int c0 :: .ref b :: st) f Q = pz_o (pz_gu f b 6) (fun _ => pz_C dA d 97 [.ref b, .int c0] f (fun r f' => pz_R dA (d + 1) 103 183 [v0, v1, v2, v3, v4, v5, v6] (r.toList ++ st) f' Q)) := pz_gcv (As := [.int c0]) d103_180 rfl rfl rfl hr
theorem d103_183 : decode (pz_b 103) 183 = .ok (.aload_n 0, 1) := by decide +kernel
theorem q103_183 {dA : Nat → ClassId} {d : Nat} {st : List Value} {f : pz_F} {Q : Option Value → pz_F → Prop} {v1 v2 v3 v4 v5 v6 : Value} {x : Nat} : pz_R dA d 103 183 [.ref x, v1, v2, v3, v4, v5, v6] st f Q = pz_R dA d 103 184 [.ref x, v1, v2, v3, v4, v5, v6] (.ref x :: st) f Q := pz_go (pz_so d103_183 rfl)
theorem d103_184 : decode (pz_b 103) 184 = .ok (.iconst 1, 1) := by decide +kernel
theorem q103_184 {dA : Nat → ClassId} {d : Nat} {st : List Value} {f : pz_F} {Q : Option Value → pz_F → Prop} {v0 v1 v2 v3 v4 v5 v6 : Value} : pz_R dA d 103 184 [v0, v1, v2, v3, v4, v5, v6] st f Q = pz_R dA d 103 185 [v0, v1, v2, v3, v4, v5, v6] (.int 1 :: st) f Q := pz_go (pz_so d103_184 rfl)
theorem d103_185 : decode (pz_b 103) 185 = .ok (.iload_n 1, 1) := by decide +kernel
theorem q103_185 {dA : Nat → ClassId} {d : Nat} {st : List Value} {f : pz_F} {Q : Option Value → pz_F → Prop} {v0 v2 v3 v4 v5 v6 : Value} {x : Int32} : pz_R dA d 103 185 [v0, .int x, v2, v3, v4, v5, v6] st f Q = pz_R dA d 103 186 [v0, .int x, v2, v3, v4, v5, v6] (.int x :: st) f Q := pz_go (pz_so d103_185 rfl)
theorem d103_186 : decode (pz_b 103) 186 = .ok (.iload_n 2, 1) := by decide +kernel
theorem q103_186 {dA : Nat → ClassId} {d : Nat} {st : List Value} {f : pz_F} {Q : Option Value → pz_F → Prop} {v0 v1 v3 v4 v5 v6 : Value} {x : Int32} : pz_R dA d 103 186 [v0, v1, .int x, v3, v4, v5, v6] st f Q = pz_R dA d 103 187 [v0, v1, .int x, v3, v4, v5, v6] (.int x :: st) f Q := pz_go (pz_so d103_186 rfl)
theorem d103_187 : decode (pz_b 103) 187 = .ok (.iload_n 3, 1) := by decide +kernel
theorem q103_187 {dA : Nat → ClassId} {d : Nat} {st : List Value} {f : pz_F} {Q : Option Value → pz_F → Prop} {v0 v1 v2 v4 v5 v6 : Value} {x : Int32} : pz_R dA d 103 187 [v0, v1, v2, .int x, v4, v5, v6] st f Q = pz_R dA d 103 188 [v0, v1, v2, .int x, v4, v5, v6] (.int x :: st) f Q := pz_go (pz_so d103_187 rfl)
theorem d103_188 : decode (pz_b 103) 188 = .ok (.iload 4, 2) := by decide +kernel
theorem q103_188 {dA : Nat → ClassId} {d : Nat} {st : List Value} {f : pz_F} {Q : Option Value → pz_F → Prop} {v0 v1 v2 v3 v5 v6 : Value} {x : Int32} : pz_R dA d 103 188 [v0, v1, v2, v3, .int x, v5, v6] st f Q = pz_R dA d 103 190 [v0, v1, v2, v3, .int x, v5, v6] (.int x :: st) f Q := pz_go (pz_so d103_188 rfl)
theorem d103_190 : decode (pz_b 103) 190 = .ok (.invokevirtual 100, 3) := by decide +kernel
theorem q103_190 {dA : Nat → ClassId} {d : Nat} {st : List Value} {f : pz_F} {Q : Option Value → pz_F → Prop} {v0 v1 v2 v3 v4 v5 v6 : Value} {c0 : Int32} {c1 : Int32} {c2 : Int32} {c3 : Int32} {c4 : Int32} {b : Nat} (hr : st.length ≤ 4) : pz_R dA (d + 1) 103 190 [v0, v1, v2, v3, v4, v5, v6] (.int c4 :: .int c3 :: .int c2 :: .int c1 :: .int c0 :: .ref b :: st) f Q = pz_o (pz_gu f b 6) (fun _ => pz_C dA d 94 [.ref b, .int c0, .int c1, .int c2, .int c3, .int c4] f (fun r f' => pz_R dA (d + 1) 103 193 [v0, v1, v2, v3, v4, v5, v6] (r.toList ++ st) f' Q)) := pz_gcv (As := [.int c0, .int c1, .int c2, .int c3, .int c4]) d103_190 rfl rfl rfl hr
theorem d103_193 : decode (pz_b 103) 193 = .ok (.aload_n 0, 1) := by decide +kernel
theorem q103_193 {dA : Nat → ClassId} {d : Nat} {st : List Value} {f : pz_F} {Q : Option Value → pz_F → Prop} {v1 v2 v3 v4 v5 v6 : Value} {x : Nat} : pz_R dA d 103 193 [.ref x, v1, v2, v3, v4, v5, v6] st f Q = pz_R dA d 103 194 [.ref x, v1, v2, v3, v4, v5, v6] (.ref x :: st) f Q := pz_go (pz_so d103_193 rfl)
theorem d103_194 : decode (pz_b 103) 194 = .ok (.getfield 75, 3) := by decide +kernel
theorem q103_194 {dA : Nat → ClassId} {d : Nat} {st : List Value} {f : pz_F} {Q : Option Value → pz_F → Prop} {v0 v1 v2 v3 v4 v5 v6 : Value} {a : Nat} : pz_R dA d 103 194 [v0, v1, v2, v3, v4, v5, v6] (.ref a :: st) f Q = pz_o (pz_gf f a 6 23) (fun v => pz_R dA d 103 197 [v0, v1, v2, v3, v4, v5, v6] (v :: st) f Q) := pz_gg d103_194 rfl
theorem d103_197 : decode (pz_b 103) 197 = .ok (.bipush 7, 2) := by decide +kernel
theorem q103_197 {dA : Nat → ClassId} {d : Nat} {st : List Value} {f : pz_F} {Q : Option Value → pz_F → Prop} {v0 v1 v2 v3 v4 v5 v6 : Value} : pz_R dA d 103 197 [v0, v1, v2, v3, v4, v5, v6] st f Q = pz_R dA d 103 199 [v0, v1, v2, v3, v4, v5, v6] (.int 7 :: st) f Q := pz_go (pz_so d103_197 rfl)
theorem d103_199 : decode (pz_b 103) 199 = .ok (.aload_n 0, 1) := by decide +kernel
theorem q103_199 {dA : Nat → ClassId} {d : Nat} {st : List Value} {f : pz_F} {Q : Option Value → pz_F → Prop} {v1 v2 v3 v4 v5 v6 : Value} {x : Nat} : pz_R dA d 103 199 [.ref x, v1, v2, v3, v4, v5, v6] st f Q = pz_R dA d 103 200 [.ref x, v1, v2, v3, v4, v5, v6] (.ref x :: st) f Q := pz_go (pz_so d103_199 rfl)
theorem d103_200 : decode (pz_b 103) 200 = .ok (.getfield 35, 3) := by decide +kernel
theorem q103_200 {dA : Nat → ClassId} {d : Nat} {st : List Value} {f : pz_F} {Q : Option Value → pz_F → Prop} {v0 v1 v2 v3 v4 v5 v6 : Value} {a : Nat} : pz_R dA d 103 200 [v0, v1, v2, v3, v4, v5, v6] (.ref a :: st) f Q = pz_o (pz_gf f a 6 9) (fun v => pz_R dA d 103 203 [v0, v1, v2, v3, v4, v5, v6] (v :: st) f Q) := pz_gg d103_200 rfl
theorem d103_203 : decode (pz_b 103) 203 = .ok (.iload 5, 2) := by decide +kernel
theorem q103_203 {dA : Nat → ClassId} {d : Nat} {st : List Value} {f : pz_F} {Q : Option Value → pz_F → Prop} {v0 v1 v2 v3 v4 v6 : Value} {x : Int32} : pz_R dA d 103 203 [v0, v1, v2, v3, v4, .int x, v6] st f Q = pz_R dA d 103 205 [v0, v1, v2, v3, v4, .int x, v6] (.int x :: st) f Q := pz_go (pz_so d103_203 rfl)
theorem d103_205 : decode (pz_b 103) 205 = .ok (.iaload, 1) := by decide +kernel
theorem q103_205 {dA : Nat → ClassId} {d : Nat} {st : List Value} {f : pz_F} {Q : Option Value → pz_F → Prop} {v0 v1 v2 v3 v4 v5 v6 : Value} {i : Int32} {a : Nat} : pz_R dA d 103 205 [v0, v1, v2, v3, v4, v5, v6] (.int i :: .ref a :: st) f Q = pz_o (pz_il (dA 0) f a i) (fun x => pz_R dA d 103 206 [v0, v1, v2, v3, v4, v5, v6] (.int x :: st) f Q) := pz_gil d103_205
theorem d103_206 : decode (pz_b 103) 206 = .ok (.iastore, 1) := by decide +kernel
theorem q103_206 {dA : Nat → ClassId} {d : Nat} {st : List Value} {f : pz_F} {Q : Option Value → pz_F → Prop} {v0 v1 v2 v3 v4 v5 v6 : Value} {x i : Int32} {a : Nat} : pz_R dA d 103 206 [v0, v1, v2, v3, v4, v5, v6] (.int x :: .int i :: .ref a :: st) f Q = pz_o (pz_is (dA 0) f a i x) (fun f' => pz_R dA d 103 207 [v0, v1, v2, v3, v4, v5, v6] st f' Q) := pz_gis d103_206
theorem d103_207 : decode (pz_b 103) 207 = .ok (.aload_n 0, 1) := by decide +kernel
theorem q103_207 {dA : Nat → ClassId} {d : Nat} {st : List Value} {f : pz_F} {Q : Option Value → pz_F → Prop} {v1 v2 v3 v4 v5 v6 : Value} {x : Nat} : pz_R dA d 103 207 [.ref x, v1, v2, v3, v4, v5, v6] st f Q = pz_R dA d 103 208 [.ref x, v1, v2, v3, v4, v5, v6] (.ref x :: st) f Q := pz_go (pz_so d103_207 rfl)
theorem d103_208 : decode (pz_b 103) 208 = .ok (.invokevirtual 104, 3) := by decide +kernel
theorem q103_208 {dA : Nat → ClassId} {d : Nat} {st : List Value} {f : pz_F} {Q : Option Value → pz_F → Prop} {v0 v1 v2 v3 v4 v5 v6 : Value} {b : Nat} (hr : st.length ≤ 4) : pz_R dA (d + 1) 103 208 [v0, v1, v2, v3, v4, v5, v6] (.ref b :: st) f Q = pz_o (pz_gu f b 6) (fun _ => pz_C dA d 95 [.ref b] f (fun r f' => pz_R dA (d + 1) 103 211 [v0, v1, v2, v3, v4, v5, v6] (r.toList ++ st) f' Q)) := pz_gcv (As := []) d103_208 rfl rfl rfl hr
theorem d103_211 : decode (pz_b 103) 211 = .ok (.return_, 1) := by decide +kernel
theorem q103_211 {dA : Nat → ClassId} {d : Nat} {f : pz_F} {Q : Option Value → pz_F → Prop} {v0 v1 v2 v3 v4 v5 v6 : Value} : pz_R dA d 103 211 [v0, v1, v2, v3, v4, v5, v6] [] f Q = Q none f := pz_gr (pz_so d103_211 rfl)
/-! X_over (I)V -/
theorem e104 {dA : Nat → ClassId} {d : Nat} {f : pz_F} {Q : Option Value → pz_F → Prop} {a0 : Nat} {a1 : Int32} : pz_C dA d 104 [.ref a0, .int a1] f Q = pz_R dA d 104 0 [.ref a0, .int a1] [] f Q := rfl
theorem d104_0 : decode (pz_b 104) 0 = .ok (.aload_n 0, 1) := by decide +kernel
theorem q104_0 {dA : Nat → ClassId} {d : Nat} {st : List Value} {f : pz_F} {Q : Option Value → pz_F → Prop} {v1 : Value} {x : Nat} : pz_R dA d 104 0 [.ref x, v1] st f Q = pz_R dA d 104 1 [.ref x, v1] (.ref x :: st) f Q := pz_go (pz_so d104_0 rfl)
theorem d104_1 : decode (pz_b 104) 1 = .ok (.getfield 29, 3) := by decide +kernel
theorem q104_1 {dA : Nat → ClassId} {d : Nat} {st : List Value} {f : pz_F} {Q : Option Value → pz_F → Prop} {v0 v1 : Value} {a : Nat} : pz_R dA d 104 1 [v0, v1] (.ref a :: st) f Q = pz_o (pz_gf f a 6 7) (fun v => pz_R dA d 104 4 [v0, v1] (v :: st) f Q) := pz_gg d104_1 rfl
theorem d104_4 : decode (pz_b 104) 4 = .ok (.iload_n 1, 1) := by decide +kernel
theorem q104_4 {dA : Nat → ClassId} {d : Nat} {st : List Value} {f : pz_F} {Q : Option Value → pz_F → Prop} {v0 : Value} {x : Int32} : pz_R dA d 104 4 [v0, .int x] st f Q = pz_R dA d 104 5 [v0, .int x] (.int x :: st) f Q := pz_go (pz_so d104_4 rfl)
theorem d104_5 : decode (pz_b 104) 5 = .ok (.iconst 2, 1) := by decide +kernel
theorem q104_5 {dA : Nat → ClassId} {d : Nat} {st : List Value} {f : pz_F} {Q : Option Value → pz_F → Prop} {v0 v1 : Value} : pz_R dA d 104 5 [v0, v1] st f Q = pz_R dA d 104 6 [v0, v1] (.int 2 :: st) f Q := pz_go (pz_so d104_5 rfl)
theorem d104_6 : decode (pz_b 104) 6 = .ok (.iastore, 1) := by decide +kernel
theorem q104_6 {dA : Nat → ClassId} {d : Nat} {st : List Value} {f : pz_F} {Q : Option Value → pz_F → Prop} {v0 v1 : Value} {x i : Int32} {a : Nat} : pz_R dA d 104 6 [v0, v1] (.int x :: .int i :: .ref a :: st) f Q = pz_o (pz_is (dA 0) f a i x) (fun f' => pz_R dA d 104 7 [v0, v1] st f' Q) := pz_gis d104_6
theorem d104_7 : decode (pz_b 104) 7 = .ok (.aload_n 0, 1) := by decide +kernel
theorem q104_7 {dA : Nat → ClassId} {d : Nat} {st : List Value} {f : pz_F} {Q : Option Value → pz_F → Prop} {v1 : Value} {x : Nat} : pz_R dA d 104 7 [.ref x, v1] st f Q = pz_R dA d 104 8 [.ref x, v1] (.ref x :: st) f Q := pz_go (pz_so d104_7 rfl)
theorem d104_8 : decode (pz_b 104) 8 = .ok (.iload_n 1, 1) := by decide +kernel
theorem q104_8 {dA : Nat → ClassId} {d : Nat} {st : List Value} {f : pz_F} {Q : Option Value → pz_F → Prop} {v0 : Value} {x : Int32} : pz_R dA d 104 8 [v0, .int x] st f Q = pz_R dA d 104 9 [v0, .int x] (.int x :: st) f Q := pz_go (pz_so d104_8 rfl)
theorem d104_9 : decode (pz_b 104) 9 = .ok (.invokevirtual 113, 3) := by decide +kernel
theorem q104_9 {dA : Nat → ClassId} {d : Nat} {st : List Value} {f : pz_F} {Q : Option Value → pz_F → Prop} {v0 v1 : Value} {c0 : Int32} {b : Nat} (hr : st.length ≤ 4) : pz_R dA (d + 1) 104 9 [v0, v1] (.int c0 :: .ref b :: st) f Q = pz_o (pz_gu f b 6) (fun _ => pz_C dA d 97 [.ref b, .int c0] f (fun r f' => pz_R dA (d + 1) 104 12 [v0, v1] (r.toList ++ st) f' Q)) := pz_gcv (As := [.int c0]) d104_9 rfl rfl rfl hr
theorem d104_12 : decode (pz_b 104) 12 = .ok (.return_, 1) := by decide +kernel
theorem q104_12 {dA : Nat → ClassId} {d : Nat} {f : pz_F} {Q : Option Value → pz_F → Prop} {v0 v1 : Value} : pz_R dA d 104 12 [v0, v1] [] f Q = Q none f := pz_gr (pz_so d104_12 rfl)
/-! X_update (II)V -/
theorem e105 {dA : Nat → ClassId} {d : Nat} {f : pz_F} {Q : Option Value → pz_F → Prop} {a0 : Nat} {a1 : Int32} {a2 : Int32} : pz_C dA d 105 [.ref a0, .int a1, .int a2] f Q = pz_R dA d 105 0 [.ref a0, .int a1, .int a2, .retAddr 0] [] f Q := rfl
theorem d105_0 : decode (pz_b 105) 0 = .ok (.bipush 6, 2) := by decide +kernel
theorem q105_0 {dA : Nat → ClassId} {d : Nat} {st : List Value} {f : pz_F} {Q : Option Value → pz_F → Prop} {v0 v1 v2 v3 : Value} : pz_R dA d 105 0 [v0, v1, v2, v3] st f Q = pz_R dA d 105 2 [v0, v1, v2, v3] (.int 6 :: st) f Q := pz_go (pz_so d105_0 rfl)
theorem d105_2 : decode (pz_b 105) 2 = .ok (.iload_n 1, 1) := by decide +kernel
theorem q105_2 {dA : Nat → ClassId} {d : Nat} {st : List Value} {f : pz_F} {Q : Option Value → pz_F → Prop} {v0 v2 v3 : Value} {x : Int32} : pz_R dA d 105 2 [v0, .int x, v2, v3] st f Q = pz_R dA d 105 3 [v0, .int x, v2, v3] (.int x :: st) f Q := pz_go (pz_so d105_2 rfl)
theorem d105_3 : decode (pz_b 105) 3 = .ok (.imul, 1) := by decide +kernel
theorem q105_3 {dA : Nat → ClassId} {d : Nat} {st : List Value} {f : pz_F} {Q : Option Value → pz_F → Prop} {v0 v1 v2 v3 : Value} {x y : Int32} : pz_R dA d 105 3 [v0, v1, v2, v3] (.int y :: .int x :: st) f Q = pz_R dA d 105 4 [v0, v1, v2, v3] (.int (x * y) :: st) f Q := pz_go (pz_so d105_3 rfl)
theorem d105_4 : decode (pz_b 105) 4 = .ok (.iload_n 2, 1) := by decide +kernel
theorem q105_4 {dA : Nat → ClassId} {d : Nat} {st : List Value} {f : pz_F} {Q : Option Value → pz_F → Prop} {v0 v1 v3 : Value} {x : Int32} : pz_R dA d 105 4 [v0, v1, .int x, v3] st f Q = pz_R dA d 105 5 [v0, v1, .int x, v3] (.int x :: st) f Q := pz_go (pz_so d105_4 rfl)
theorem d105_5 : decode (pz_b 105) 5 = .ok (.iadd, 1) := by decide +kernel
theorem q105_5 {dA : Nat → ClassId} {d : Nat} {st : List Value} {f : pz_F} {Q : Option Value → pz_F → Prop} {v0 v1 v2 v3 : Value} {x y : Int32} : pz_R dA d 105 5 [v0, v1, v2, v3] (.int y :: .int x :: st) f Q = pz_R dA d 105 6 [v0, v1, v2, v3] (.int (x + y) :: st) f Q := pz_go (pz_so d105_5 rfl)
theorem d105_6 : decode (pz_b 105) 6 = .ok (.istore_n 3, 1) := by decide +kernel
theorem q105_6 {dA : Nat → ClassId} {d : Nat} {st : List Value} {f : pz_F} {Q : Option Value → pz_F → Prop} {v0 v1 v2 v3 : Value} {x : Int32} : pz_R dA d 105 6 [v0, v1, v2, v3] (.int x :: st) f Q = pz_R dA d 105 7 [v0, v1, v2, .int x] st f Q := pz_go (pz_so d105_6 rfl)
theorem d105_7 : decode (pz_b 105) 7 = .ok (.aload_n 0, 1) := by decide +kernel
theorem q105_7 {dA : Nat → ClassId} {d : Nat} {st : List Value} {f : pz_F} {Q : Option Value → pz_F → Prop} {v1 v2 v3 : Value} {x : Nat} : pz_R dA d 105 7 [.ref x, v1, v2, v3] st f Q = pz_R dA d 105 8 [.ref x, v1, v2, v3] (.ref x :: st) f Q := pz_go (pz_so d105_7 rfl)
theorem d105_8 : decode (pz_b 105) 8 = .ok (.iconst 4, 1) := by decide +kernel
theorem q105_8 {dA : Nat → ClassId} {d : Nat} {st : List Value} {f : pz_F} {Q : Option Value → pz_F → Prop} {v0 v1 v2 v3 : Value} : pz_R dA d 105 8 [v0, v1, v2, v3] st f Q = pz_R dA d 105 9 [v0, v1, v2, v3] (.int 4 :: st) f Q := pz_go (pz_so d105_8 rfl)
theorem d105_9 : decode (pz_b 105) 9 = .ok (.iload_n 1, 1) := by decide +kernel
theorem q105_9 {dA : Nat → ClassId} {d : Nat} {st : List Value} {f : pz_F} {Q : Option Value → pz_F → Prop} {v0 v2 v3 : Value} {x : Int32} : pz_R dA d 105 9 [v0, .int x, v2, v3] st f Q = pz_R dA d 105 10 [v0, .int x, v2, v3] (.int x :: st) f Q := pz_go (pz_so d105_9 rfl)
theorem d105_10 : decode (pz_b 105) 10 = .ok (.iconst 1, 1) := by decide +kernel
theorem q105_10 {dA : Nat → ClassId} {d : Nat} {st : List Value} {f : pz_F} {Q : Option Value → pz_F → Prop} {v0 v1 v2 v3 : Value} : pz_R dA d 105 10 [v0, v1, v2, v3] st f Q = pz_R dA d 105 11 [v0, v1, v2, v3] (.int 1 :: st) f Q := pz_go (pz_so d105_10 rfl)
theorem d105_11 : decode (pz_b 105) 11 = .ok (.iload_n 1, 1) := by decide +kernel
theorem q105_11 {dA : Nat → ClassId} {d : Nat} {st : List Value} {f : pz_F} {Q : Option Value → pz_F → Prop} {v0 v2 v3 : Value} {x : Int32} : pz_R dA d 105 11 [v0, .int x, v2, v3] st f Q = pz_R dA d 105 12 [v0, .int x, v2, v3] (.int x :: st) f Q := pz_go (pz_so d105_11 rfl)
theorem d105_12 : decode (pz_b 105) 12 = .ok (.isub, 1) := by decide +kernel
theorem q105_12 {dA : Nat → ClassId} {d : Nat} {st : List Value} {f : pz_F} {Q : Option Value → pz_F → Prop} {v0 v1 v2 v3 : Value} {x y : Int32} : pz_R dA d 105 12 [v0, v1, v2, v3] (.int y :: .int x :: st) f Q = pz_R dA d 105 13 [v0, v1, v2, v3] (.int (x - y) :: st) f Q := pz_go (pz_so d105_12 rfl)
theorem d105_13 : decode (pz_b 105) 13 = .ok (.iload_n 2, 1) := by decide +kernel
theorem q105_13 {dA : Nat → ClassId} {d : Nat} {st : List Value} {f : pz_F} {Q : Option Value → pz_F → Prop} {v0 v1 v3 : Value} {x : Int32} : pz_R dA d 105 13 [v0, v1, .int x, v3] st f Q = pz_R dA d 105 14 [v0, v1, .int x, v3] (.int x :: st) f Q := pz_go (pz_so d105_13 rfl)
theorem d105_14 : decode (pz_b 105) 14 = .ok (.aload_n 0, 1) := by decide +kernel
theorem q105_14 {dA : Nat → ClassId} {d : Nat} {st : List Value} {f : pz_F} {Q : Option Value → pz_F → Prop} {v1 v2 v3 : Value} {x : Nat} : pz_R dA d 105 14 [.ref x, v1, v2, v3] st f Q = pz_R dA d 105 15 [.ref x, v1, v2, v3] (.ref x :: st) f Q := pz_go (pz_so d105_14 rfl)
theorem d105_15 : decode (pz_b 105) 15 = .ok (.getfield 29, 3) := by decide +kernel
theorem q105_15 {dA : Nat → ClassId} {d : Nat} {st : List Value} {f : pz_F} {Q : Option Value → pz_F → Prop} {v0 v1 v2 v3 : Value} {a : Nat} : pz_R dA d 105 15 [v0, v1, v2, v3] (.ref a :: st) f Q = pz_o (pz_gf f a 6 7) (fun v => pz_R dA d 105 18 [v0, v1, v2, v3] (v :: st) f Q) := pz_gg d105_15 rfl
theorem d105_18 : decode (pz_b 105) 18 = .ok (.iload_n 3, 1) := by decide +kernel
theorem q105_18 {dA : Nat → ClassId} {d : Nat} {st : List Value} {f : pz_F} {Q : Option Value → pz_F → Prop} {v0 v1 v2 : Value} {x : Int32} : pz_R dA d 105 18 [v0, v1, v2, .int x] st f Q = pz_R dA d 105 19 [v0, v1, v2, .int x] (.int x :: st) f Q := pz_go (pz_so d105_18 rfl)
theorem d105_19 : decode (pz_b 105) 19 = .ok (.iaload, 1) := by decide +kernel
theorem q105_19 {dA : Nat → ClassId} {d : Nat} {st : List Value} {f : pz_F} {Q : Option Value → pz_F → Prop} {v0 v1 v2 v3 : Value} {i : Int32} {a : Nat} : pz_R dA d 105 19 [v0, v1, v2, v3] (.int i :: .ref a :: st) f Q = pz_o (pz_il (dA 0) f a i) (fun x => pz_R dA d 105 20 [v0, v1, v2, v3] (.int x :: st) f Q) := pz_gil d105_19
theorem d105_20 : decode (pz_b 105) 20 = .ok (.invokevirtual 100, 3) := by decide +kernel
theorem q105_20 {dA : Nat → ClassId} {d : Nat} {st : List Value} {f : pz_F} {Q : Option Value → pz_F → Prop} {v0 v1 v2 v3 : Value} {c0 : Int32} {c1 : Int32} {c2 : Int32} {c3 : Int32} {c4 : Int32} {b : Nat} (hr : st.length ≤ 4) : pz_R dA (d + 1) 105 20 [v0, v1, v2, v3] (.int c4 :: .int c3 :: .int c2 :: .int c1 :: .int c0 :: .ref b :: st) f Q = pz_o (pz_gu f b 6) (fun _ => pz_C dA d 94 [.ref b, .int c0, .int c1, .int c2, .int c3, .int c4] f (fun r f' => pz_R dA (d + 1) 105 23 [v0, v1, v2, v3] (r.toList ++ st) f' Q)) := pz_gcv (As := [.int c0, .int c1, .int c2, .int c3, .int c4]) d105_20 rfl rfl rfl hr
theorem d105_23 : decode (pz_b 105) 23 = .ok (.aload_n 0, 1) := by decide +kernel
theorem q105_23 {dA : Nat → ClassId} {d : Nat} {st : List Value} {f : pz_F} {Q : Option Value → pz_F → Prop} {v1 v2 v3 : Value} {x : Nat} : pz_R dA d 105 23 [.ref x, v1, v2, v3] st f Q = pz_R dA d 105 24 [.ref x, v1, v2, v3] (.ref x :: st) f Q := pz_go (pz_so d105_23 rfl)
theorem d105_24 : decode (pz_b 105) 24 = .ok (.getfield 75, 3) := by decide +kernel
theorem q105_24 {dA : Nat → ClassId} {d : Nat} {st : List Value} {f : pz_F} {Q : Option Value → pz_F → Prop} {v0 v1 v2 v3 : Value} {a : Nat} : pz_R dA d 105 24 [v0, v1, v2, v3] (.ref a :: st) f Q = pz_o (pz_gf f a 6 23) (fun v => pz_R dA d 105 27 [v0, v1, v2, v3] (v :: st) f Q) := pz_gg d105_24 rfl
theorem d105_27 : decode (pz_b 105) 27 = .ok (.bipush 6, 2) := by decide +kernel
theorem q105_27 {dA : Nat → ClassId} {d : Nat} {st : List Value} {f : pz_F} {Q : Option Value → pz_F → Prop} {v0 v1 v2 v3 : Value} : pz_R dA d 105 27 [v0, v1, v2, v3] st f Q = pz_R dA d 105 29 [v0, v1, v2, v3] (.int 6 :: st) f Q := pz_go (pz_so d105_27 rfl)
theorem d105_29 : decode (pz_b 105) 29 = .ok (.aload_n 0, 1) := by decide +kernel
theorem q105_29 {dA : Nat → ClassId} {d : Nat} {st : List Value} {f : pz_F} {Q : Option Value → pz_F → Prop} {v1 v2 v3 : Value} {x : Nat} : pz_R dA d 105 29 [.ref x, v1, v2, v3] st f Q = pz_R dA d 105 30 [.ref x, v1, v2, v3] (.ref x :: st) f Q := pz_go (pz_so d105_29 rfl)
theorem d105_30 : decode (pz_b 105) 30 = .ok (.getfield 32, 3) := by decide +kernel
theorem q105_30 {dA : Nat → ClassId} {d : Nat} {st : List Value} {f : pz_F} {Q : Option Value → pz_F → Prop} {v0 v1 v2 v3 : Value} {a : Nat} : pz_R dA d 105 30 [v0, v1, v2, v3] (.ref a :: st) f Q = pz_o (pz_gf f a 6 8) (fun v => pz_R dA d 105 33 [v0, v1, v2, v3] (v :: st) f Q) := pz_gg d105_30 rfl
theorem d105_33 : decode (pz_b 105) 33 = .ok (.iload_n 3, 1) := by decide +kernel
theorem q105_33 {dA : Nat → ClassId} {d : Nat} {st : List Value} {f : pz_F} {Q : Option Value → pz_F → Prop} {v0 v1 v2 : Value} {x : Int32} : pz_R dA d 105 33 [v0, v1, v2, .int x] st f Q = pz_R dA d 105 34 [v0, v1, v2, .int x] (.int x :: st) f Q := pz_go (pz_so d105_33 rfl)
theorem d105_34 : decode (pz_b 105) 34 = .ok (.iaload, 1) := by decide +kernel
theorem q105_34 {dA : Nat → ClassId} {d : Nat} {st : List Value} {f : pz_F} {Q : Option Value → pz_F → Prop} {v0 v1 v2 v3 : Value} {i : Int32} {a : Nat} : pz_R dA d 105 34 [v0, v1, v2, v3] (.int i :: .ref a :: st) f Q = pz_o (pz_il (dA 0) f a i) (fun x => pz_R dA d 105 35 [v0, v1, v2, v3] (.int x :: st) f Q) := pz_gil d105_34
theorem d105_35 : decode (pz_b 105) 35 = .ok (.iastore, 1) := by decide +kernel
theorem q105_35 {dA : Nat → ClassId} {d : Nat} {st : List Value} {f : pz_F} {Q : Option Value → pz_F → Prop} {v0 v1 v2 v3 : Value} {x i : Int32} {a : Nat} : pz_R dA d 105 35 [v0, v1, v2, v3] (.int x :: .int i :: .ref a :: st) f Q = pz_o (pz_is (dA 0) f a i x) (fun f' => pz_R dA d 105 36 [v0, v1, v2, v3] st f' Q) := pz_gis d105_35
theorem d105_36 : decode (pz_b 105) 36 = .ok (.aload_n 0, 1) := by decide +kernel
theorem q105_36 {dA : Nat → ClassId} {d : Nat} {st : List Value} {f : pz_F} {Q : Option Value → pz_F → Prop} {v1 v2 v3 : Value} {x : Nat} : pz_R dA d 105 36 [.ref x, v1, v2, v3] st f Q = pz_R dA d 105 37 [.ref x, v1, v2, v3] (.ref x :: st) f Q := pz_go (pz_so d105_36 rfl)
theorem d105_37 : decode (pz_b 105) 37 = .ok (.getfield 75, 3) := by decide +kernel
theorem q105_37 {dA : Nat → ClassId} {d : Nat} {st : List Value} {f : pz_F} {Q : Option Value → pz_F → Prop} {v0 v1 v2 v3 : Value} {a : Nat} : pz_R dA d 105 37 [v0, v1, v2, v3] (.ref a :: st) f Q = pz_o (pz_gf f a 6 23) (fun v => pz_R dA d 105 40 [v0, v1, v2, v3] (v :: st) f Q) := pz_gg d105_37 rfl
theorem d105_40 : decode (pz_b 105) 40 = .ok (.bipush 7, 2) := by decide +kernel
theorem q105_40 {dA : Nat → ClassId} {d : Nat} {st : List Value} {f : pz_F} {Q : Option Value → pz_F → Prop} {v0 v1 v2 v3 : Value} : pz_R dA d 105 40 [v0, v1, v2, v3] st f Q = pz_R dA d 105 42 [v0, v1, v2, v3] (.int 7 :: st) f Q := pz_go (pz_so d105_40 rfl)
theorem d105_42 : decode (pz_b 105) 42 = .ok (.aload_n 0, 1) := by decide +kernel
theorem q105_42 {dA : Nat → ClassId} {d : Nat} {st : List Value} {f : pz_F} {Q : Option Value → pz_F → Prop} {v1 v2 v3 : Value} {x : Nat} : pz_R dA d 105 42 [.ref x, v1, v2, v3] st f Q = pz_R dA d 105 43 [.ref x, v1, v2, v3] (.ref x :: st) f Q := pz_go (pz_so d105_42 rfl)
theorem d105_43 : decode (pz_b 105) 43 = .ok (.getfield 35, 3) := by decide +kernel
theorem q105_43 {dA : Nat → ClassId} {d : Nat} {st : List Value} {f : pz_F} {Q : Option Value → pz_F → Prop} {v0 v1 v2 v3 : Value} {a : Nat} : pz_R dA d 105 43 [v0, v1, v2, v3] (.ref a :: st) f Q = pz_o (pz_gf f a 6 9) (fun v => pz_R dA d 105 46 [v0, v1, v2, v3] (v :: st) f Q) := pz_gg d105_43 rfl
theorem d105_46 : decode (pz_b 105) 46 = .ok (.iload_n 3, 1) := by decide +kernel
theorem q105_46 {dA : Nat → ClassId} {d : Nat} {st : List Value} {f : pz_F} {Q : Option Value → pz_F → Prop} {v0 v1 v2 : Value} {x : Int32} : pz_R dA d 105 46 [v0, v1, v2, .int x] st f Q = pz_R dA d 105 47 [v0, v1, v2, .int x] (.int x :: st) f Q := pz_go (pz_so d105_46 rfl)
theorem d105_47 : decode (pz_b 105) 47 = .ok (.iaload, 1) := by decide +kernel
theorem q105_47 {dA : Nat → ClassId} {d : Nat} {st : List Value} {f : pz_F} {Q : Option Value → pz_F → Prop} {v0 v1 v2 v3 : Value} {i : Int32} {a : Nat} : pz_R dA d 105 47 [v0, v1, v2, v3] (.int i :: .ref a :: st) f Q = pz_o (pz_il (dA 0) f a i) (fun x => pz_R dA d 105 48 [v0, v1, v2, v3] (.int x :: st) f Q) := pz_gil d105_47
theorem d105_48 : decode (pz_b 105) 48 = .ok (.iastore, 1) := by decide +kernel
theorem q105_48 {dA : Nat → ClassId} {d : Nat} {st : List Value} {f : pz_F} {Q : Option Value → pz_F → Prop} {v0 v1 v2 v3 : Value} {x i : Int32} {a : Nat} : pz_R dA d 105 48 [v0, v1, v2, v3] (.int x :: .int i :: .ref a :: st) f Q = pz_o (pz_is (dA 0) f a i x) (fun f' => pz_R dA d 105 49 [v0, v1, v2, v3] st f' Q) := pz_gis d105_48
theorem d105_49 : decode (pz_b 105) 49 = .ok (.aload_n 0, 1) := by decide +kernel
theorem q105_49 {dA : Nat → ClassId} {d : Nat} {st : List Value} {f : pz_F} {Q : Option Value → pz_F → Prop} {v1 v2 v3 : Value} {x : Nat} : pz_R dA d 105 49 [.ref x, v1, v2, v3] st f Q = pz_R dA d 105 50 [.ref x, v1, v2, v3] (.ref x :: st) f Q := pz_go (pz_so d105_49 rfl)
theorem d105_50 : decode (pz_b 105) 50 = .ok (.getfield 75, 3) := by decide +kernel
theorem q105_50 {dA : Nat → ClassId} {d : Nat} {st : List Value} {f : pz_F} {Q : Option Value → pz_F → Prop} {v0 v1 v2 v3 : Value} {a : Nat} : pz_R dA d 105 50 [v0, v1, v2, v3] (.ref a :: st) f Q = pz_o (pz_gf f a 6 23) (fun v => pz_R dA d 105 53 [v0, v1, v2, v3] (v :: st) f Q) := pz_gg d105_50 rfl
theorem d105_53 : decode (pz_b 105) 53 = .ok (.bipush 8, 2) := by decide +kernel
theorem q105_53 {dA : Nat → ClassId} {d : Nat} {st : List Value} {f : pz_F} {Q : Option Value → pz_F → Prop} {v0 v1 v2 v3 : Value} : pz_R dA d 105 53 [v0, v1, v2, v3] st f Q = pz_R dA d 105 55 [v0, v1, v2, v3] (.int 8 :: st) f Q := pz_go (pz_so d105_53 rfl)
theorem d105_55 : decode (pz_b 105) 55 = .ok (.aload_n 0, 1) := by decide +kernel
theorem q105_55 {dA : Nat → ClassId} {d : Nat} {st : List Value} {f : pz_F} {Q : Option Value → pz_F → Prop} {v1 v2 v3 : Value} {x : Nat} : pz_R dA d 105 55 [.ref x, v1, v2, v3] st f Q = pz_R dA d 105 56 [.ref x, v1, v2, v3] (.ref x :: st) f Q := pz_go (pz_so d105_55 rfl)
theorem d105_56 : decode (pz_b 105) 56 = .ok (.getfield 44, 3) := by decide +kernel
theorem q105_56 {dA : Nat → ClassId} {d : Nat} {st : List Value} {f : pz_F} {Q : Option Value → pz_F → Prop} {v0 v1 v2 v3 : Value} {a : Nat} : pz_R dA d 105 56 [v0, v1, v2, v3] (.ref a :: st) f Q = pz_o (pz_gf f a 6 12) (fun v => pz_R dA d 105 59 [v0, v1, v2, v3] (v :: st) f Q) := pz_gg d105_56 rfl
theorem d105_59 : decode (pz_b 105) 59 = .ok (.iload_n 3, 1) := by decide +kernel
theorem q105_59 {dA : Nat → ClassId} {d : Nat} {st : List Value} {f : pz_F} {Q : Option Value → pz_F → Prop} {v0 v1 v2 : Value} {x : Int32} : pz_R dA d 105 59 [v0, v1, v2, .int x] st f Q = pz_R dA d 105 60 [v0, v1, v2, .int x] (.int x :: st) f Q := pz_go (pz_so d105_59 rfl)
theorem d105_60 : decode (pz_b 105) 60 = .ok (.iaload, 1) := by decide +kernel
theorem q105_60 {dA : Nat → ClassId} {d : Nat} {st : List Value} {f : pz_F} {Q : Option Value → pz_F → Prop} {v0 v1 v2 v3 : Value} {i : Int32} {a : Nat} : pz_R dA d 105 60 [v0, v1, v2, v3] (.int i :: .ref a :: st) f Q = pz_o (pz_il (dA 0) f a i) (fun x => pz_R dA d 105 61 [v0, v1, v2, v3] (.int x :: st) f Q) := pz_gil d105_60
theorem d105_61 : decode (pz_b 105) 61 = .ok (.iastore, 1) := by decide +kernel
theorem q105_61 {dA : Nat → ClassId} {d : Nat} {st : List Value} {f : pz_F} {Q : Option Value → pz_F → Prop} {v0 v1 v2 v3 : Value} {x i : Int32} {a : Nat} : pz_R dA d 105 61 [v0, v1, v2, v3] (.int x :: .int i :: .ref a :: st) f Q = pz_o (pz_is (dA 0) f a i x) (fun f' => pz_R dA d 105 62 [v0, v1, v2, v3] st f' Q) := pz_gis d105_61
theorem d105_62 : decode (pz_b 105) 62 = .ok (.aload_n 0, 1) := by decide +kernel
theorem q105_62 {dA : Nat → ClassId} {d : Nat} {st : List Value} {f : pz_F} {Q : Option Value → pz_F → Prop} {v1 v2 v3 : Value} {x : Nat} : pz_R dA d 105 62 [.ref x, v1, v2, v3] st f Q = pz_R dA d 105 63 [.ref x, v1, v2, v3] (.ref x :: st) f Q := pz_go (pz_so d105_62 rfl)
theorem d105_63 : decode (pz_b 105) 63 = .ok (.getfield 75, 3) := by decide +kernel
theorem q105_63 {dA : Nat → ClassId} {d : Nat} {st : List Value} {f : pz_F} {Q : Option Value → pz_F → Prop} {v0 v1 v2 v3 : Value} {a : Nat} : pz_R dA d 105 63 [v0, v1, v2, v3] (.ref a :: st) f Q = pz_o (pz_gf f a 6 23) (fun v => pz_R dA d 105 66 [v0, v1, v2, v3] (v :: st) f Q) := pz_gg d105_63 rfl
theorem d105_66 : decode (pz_b 105) 66 = .ok (.bipush 9, 2) := by decide +kernel
theorem q105_66 {dA : Nat → ClassId} {d : Nat} {st : List Value} {f : pz_F} {Q : Option Value → pz_F → Prop} {v0 v1 v2 v3 : Value} : pz_R dA d 105 66 [v0, v1, v2, v3] st f Q = pz_R dA d 105 68 [v0, v1, v2, v3] (.int 9 :: st) f Q := pz_go (pz_so d105_66 rfl)
theorem d105_68 : decode (pz_b 105) 68 = .ok (.aload_n 0, 1) := by decide +kernel
theorem q105_68 {dA : Nat → ClassId} {d : Nat} {st : List Value} {f : pz_F} {Q : Option Value → pz_F → Prop} {v1 v2 v3 : Value} {x : Nat} : pz_R dA d 105 68 [.ref x, v1, v2, v3] st f Q = pz_R dA d 105 69 [.ref x, v1, v2, v3] (.ref x :: st) f Q := pz_go (pz_so d105_68 rfl)
theorem d105_69 : decode (pz_b 105) 69 = .ok (.getfield 47, 3) := by decide +kernel
theorem q105_69 {dA : Nat → ClassId} {d : Nat} {st : List Value} {f : pz_F} {Q : Option Value → pz_F → Prop} {v0 v1 v2 v3 : Value} {a : Nat} : pz_R dA d 105 69 [v0, v1, v2, v3] (.ref a :: st) f Q = pz_o (pz_gf f a 6 13) (fun v => pz_R dA d 105 72 [v0, v1, v2, v3] (v :: st) f Q) := pz_gg d105_69 rfl
theorem d105_72 : decode (pz_b 105) 72 = .ok (.iload_n 3, 1) := by decide +kernel
theorem q105_72 {dA : Nat → ClassId} {d : Nat} {st : List Value} {f : pz_F} {Q : Option Value → pz_F → Prop} {v0 v1 v2 : Value} {x : Int32} : pz_R dA d 105 72 [v0, v1, v2, .int x] st f Q = pz_R dA d 105 73 [v0, v1, v2, .int x] (.int x :: st) f Q := pz_go (pz_so d105_72 rfl)
theorem d105_73 : decode (pz_b 105) 73 = .ok (.iaload, 1) := by decide +kernel
theorem q105_73 {dA : Nat → ClassId} {d : Nat} {st : List Value} {f : pz_F} {Q : Option Value → pz_F → Prop} {v0 v1 v2 v3 : Value} {i : Int32} {a : Nat} : pz_R dA d 105 73 [v0, v1, v2, v3] (.int i :: .ref a :: st) f Q = pz_o (pz_il (dA 0) f a i) (fun x => pz_R dA d 105 74 [v0, v1, v2, v3] (.int x :: st) f Q) := pz_gil d105_73
theorem d105_74 : decode (pz_b 105) 74 = .ok (.iastore, 1) := by decide +kernel
theorem q105_74 {dA : Nat → ClassId} {d : Nat} {st : List Value} {f : pz_F} {Q : Option Value → pz_F → Prop} {v0 v1 v2 v3 : Value} {x i : Int32} {a : Nat} : pz_R dA d 105 74 [v0, v1, v2, v3] (.int x :: .int i :: .ref a :: st) f Q = pz_o (pz_is (dA 0) f a i x) (fun f' => pz_R dA d 105 75 [v0, v1, v2, v3] st f' Q) := pz_gis d105_74
theorem d105_75 : decode (pz_b 105) 75 = .ok (.aload_n 0, 1) := by decide +kernel
theorem q105_75 {dA : Nat → ClassId} {d : Nat} {st : List Value} {f : pz_F} {Q : Option Value → pz_F → Prop} {v1 v2 v3 : Value} {x : Nat} : pz_R dA d 105 75 [.ref x, v1, v2, v3] st f Q = pz_R dA d 105 76 [.ref x, v1, v2, v3] (.ref x :: st) f Q := pz_go (pz_so d105_75 rfl)
theorem d105_76 : decode (pz_b 105) 76 = .ok (.getfield 75, 3) := by decide +kernel
theorem q105_76 {dA : Nat → ClassId} {d : Nat} {st : List Value} {f : pz_F} {Q : Option Value → pz_F → Prop} {v0 v1 v2 v3 : Value} {a : Nat} : pz_R dA d 105 76 [v0, v1, v2, v3] (.ref a :: st) f Q = pz_o (pz_gf f a 6 23) (fun v => pz_R dA d 105 79 [v0, v1, v2, v3] (v :: st) f Q) := pz_gg d105_76 rfl
theorem d105_79 : decode (pz_b 105) 79 = .ok (.bipush 10, 2) := by decide +kernel
theorem q105_79 {dA : Nat → ClassId} {d : Nat} {st : List Value} {f : pz_F} {Q : Option Value → pz_F → Prop} {v0 v1 v2 v3 : Value} : pz_R dA d 105 79 [v0, v1, v2, v3] st f Q = pz_R dA d 105 81 [v0, v1, v2, v3] (.int 10 :: st) f Q := pz_go (pz_so d105_79 rfl)
theorem d105_81 : decode (pz_b 105) 81 = .ok (.aload_n 0, 1) := by decide +kernel
theorem q105_81 {dA : Nat → ClassId} {d : Nat} {st : List Value} {f : pz_F} {Q : Option Value → pz_F → Prop} {v1 v2 v3 : Value} {x : Nat} : pz_R dA d 105 81 [.ref x, v1, v2, v3] st f Q = pz_R dA d 105 82 [.ref x, v1, v2, v3] (.ref x :: st) f Q := pz_go (pz_so d105_81 rfl)
theorem d105_82 : decode (pz_b 105) 82 = .ok (.getfield 78, 3) := by decide +kernel
theorem q105_82 {dA : Nat → ClassId} {d : Nat} {st : List Value} {f : pz_F} {Q : Option Value → pz_F → Prop} {v0 v1 v2 v3 : Value} {a : Nat} : pz_R dA d 105 82 [v0, v1, v2, v3] (.ref a :: st) f Q = pz_o (pz_gf f a 6 0) (fun v => pz_R dA d 105 85 [v0, v1, v2, v3] (v :: st) f Q) := pz_gg d105_82 rfl
theorem d105_85 : decode (pz_b 105) 85 = .ok (.bipush 20, 2) := by decide +kernel
theorem q105_85 {dA : Nat → ClassId} {d : Nat} {st : List Value} {f : pz_F} {Q : Option Value → pz_F → Prop} {v0 v1 v2 v3 : Value} : pz_R dA d 105 85 [v0, v1, v2, v3] st f Q = pz_R dA d 105 87 [v0, v1, v2, v3] (.int 20 :: st) f Q := pz_go (pz_so d105_85 rfl)
theorem d105_87 : decode (pz_b 105) 87 = .ok (.iadd, 1) := by decide +kernel
theorem q105_87 {dA : Nat → ClassId} {d : Nat} {st : List Value} {f : pz_F} {Q : Option Value → pz_F → Prop} {v0 v1 v2 v3 : Value} {x y : Int32} : pz_R dA d 105 87 [v0, v1, v2, v3] (.int y :: .int x :: st) f Q = pz_R dA d 105 88 [v0, v1, v2, v3] (.int (x + y) :: st) f Q := pz_go (pz_so d105_87 rfl)
theorem d105_88 : decode (pz_b 105) 88 = .ok (.iastore, 1) := by decide +kernel
theorem q105_88 {dA : Nat → ClassId} {d : Nat} {st : List Value} {f : pz_F} {Q : Option Value → pz_F → Prop} {v0 v1 v2 v3 : Value} {x i : Int32} {a : Nat} : pz_R dA d 105 88 [v0, v1, v2, v3] (.int x :: .int i :: .ref a :: st) f Q = pz_o (pz_is (dA 0) f a i x) (fun f' => pz_R dA d 105 89 [v0, v1, v2, v3] st f' Q) := pz_gis d105_88
theorem d105_89 : decode (pz_b 105) 89 = .ok (.aload_n 0, 1) := by decide +kernel
theorem q105_89 {dA : Nat → ClassId} {d : Nat} {st : List Value} {f : pz_F} {Q : Option Value → pz_F → Prop} {v1 v2 v3 : Value} {x : Nat} : pz_R dA d 105 89 [.ref x, v1, v2, v3] st f Q = pz_R dA d 105 90 [.ref x, v1, v2, v3] (.ref x :: st) f Q := pz_go (pz_so d105_89 rfl)
theorem d105_90 : decode (pz_b 105) 90 = .ok (.getfield 75, 3) := by decide +kernel
theorem q105_90 {dA : Nat → ClassId} {d : Nat} {st : List Value} {f : pz_F} {Q : Option Value → pz_F → Prop} {v0 v1 v2 v3 : Value} {a : Nat} : pz_R dA d 105 90 [v0, v1, v2, v3] (.ref a :: st) f Q = pz_o (pz_gf f a 6 23) (fun v => pz_R dA d 105 93 [v0, v1, v2, v3] (v :: st) f Q) := pz_gg d105_90 rfl
theorem d105_93 : decode (pz_b 105) 93 = .ok (.bipush 11, 2) := by decide +kernel
theorem q105_93 {dA : Nat → ClassId} {d : Nat} {st : List Value} {f : pz_F} {Q : Option Value → pz_F → Prop} {v0 v1 v2 v3 : Value} : pz_R dA d 105 93 [v0, v1, v2, v3] st f Q = pz_R dA d 105 95 [v0, v1, v2, v3] (.int 11 :: st) f Q := pz_go (pz_so d105_93 rfl)
theorem d105_95 : decode (pz_b 105) 95 = .ok (.aload_n 0, 1) := by decide +kernel
theorem q105_95 {dA : Nat → ClassId} {d : Nat} {st : List Value} {f : pz_F} {Q : Option Value → pz_F → Prop} {v1 v2 v3 : Value} {x : Nat} : pz_R dA d 105 95 [.ref x, v1, v2, v3] st f Q = pz_R dA d 105 96 [.ref x, v1, v2, v3] (.ref x :: st) f Q := pz_go (pz_so d105_95 rfl)
theorem d105_96 : decode (pz_b 105) 96 = .ok (.getfield 23, 3) := by decide +kernel
theorem q105_96 {dA : Nat → ClassId} {d : Nat} {st : List Value} {f : pz_F} {Q : Option Value → pz_F → Prop} {v0 v1 v2 v3 : Value} {a : Nat} : pz_R dA d 105 96 [v0, v1, v2, v3] (.ref a :: st) f Q = pz_o (pz_gf f a 6 5) (fun v => pz_R dA d 105 99 [v0, v1, v2, v3] (v :: st) f Q) := pz_gg d105_96 rfl
theorem d105_99 : decode (pz_b 105) 99 = .ok (.iload_n 1, 1) := by decide +kernel
theorem q105_99 {dA : Nat → ClassId} {d : Nat} {st : List Value} {f : pz_F} {Q : Option Value → pz_F → Prop} {v0 v2 v3 : Value} {x : Int32} : pz_R dA d 105 99 [v0, .int x, v2, v3] st f Q = pz_R dA d 105 100 [v0, .int x, v2, v3] (.int x :: st) f Q := pz_go (pz_so d105_99 rfl)
theorem d105_100 : decode (pz_b 105) 100 = .ok (.iaload, 1) := by decide +kernel
theorem q105_100 {dA : Nat → ClassId} {d : Nat} {st : List Value} {f : pz_F} {Q : Option Value → pz_F → Prop} {v0 v1 v2 v3 : Value} {i : Int32} {a : Nat} : pz_R dA d 105 100 [v0, v1, v2, v3] (.int i :: .ref a :: st) f Q = pz_o (pz_il (dA 0) f a i) (fun x => pz_R dA d 105 101 [v0, v1, v2, v3] (.int x :: st) f Q) := pz_gil d105_100
theorem d105_101 : decode (pz_b 105) 101 = .ok (.iastore, 1) := by decide +kernel
theorem q105_101 {dA : Nat → ClassId} {d : Nat} {st : List Value} {f : pz_F} {Q : Option Value → pz_F → Prop} {v0 v1 v2 v3 : Value} {x i : Int32} {a : Nat} : pz_R dA d 105 101 [v0, v1, v2, v3] (.int x :: .int i :: .ref a :: st) f Q = pz_o (pz_is (dA 0) f a i x) (fun f' => pz_R dA d 105 102 [v0, v1, v2, v3] st f' Q) := pz_gis d105_101
theorem d105_102 : decode (pz_b 105) 102 = .ok (.aload_n 0, 1) := by decide +kernel
theorem q105_102 {dA : Nat → ClassId} {d : Nat} {st : List Value} {f : pz_F} {Q : Option Value → pz_F → Prop} {v1 v2 v3 : Value} {x : Nat} : pz_R dA d 105 102 [.ref x, v1, v2, v3] st f Q = pz_R dA d 105 103 [.ref x, v1, v2, v3] (.ref x :: st) f Q := pz_go (pz_so d105_102 rfl)
theorem d105_103 : decode (pz_b 105) 103 = .ok (.invokevirtual 104, 3) := by decide +kernel
theorem q105_103 {dA : Nat → ClassId} {d : Nat} {st : List Value} {f : pz_F} {Q : Option Value → pz_F → Prop} {v0 v1 v2 v3 : Value} {b : Nat} (hr : st.length ≤ 4) : pz_R dA (d + 1) 105 103 [v0, v1, v2, v3] (.ref b :: st) f Q = pz_o (pz_gu f b 6) (fun _ => pz_C dA d 95 [.ref b] f (fun r f' => pz_R dA (d + 1) 105 106 [v0, v1, v2, v3] (r.toList ++ st) f' Q)) := pz_gcv (As := []) d105_103 rfl rfl rfl hr
theorem d105_106 : decode (pz_b 105) 106 = .ok (.return_, 1) := by decide +kernel
theorem q105_106 {dA : Nat → ClassId} {d : Nat} {f : pz_F} {Q : Option Value → pz_F → Prop} {v0 v1 v2 v3 : Value} : pz_R dA d 105 106 [v0, v1, v2, v3] [] f Q = Q none f := pz_gr (pz_so d105_106 rfl)
/-! X_acknowledge (I)V -/
theorem e106 {dA : Nat → ClassId} {d : Nat} {f : pz_F} {Q : Option Value → pz_F → Prop} {a0 : Nat} {a1 : Int32} : pz_C dA d 106 [.ref a0, .int a1] f Q = pz_R dA d 106 0 [.ref a0, .int a1] [] f Q := rfl
theorem d106_0 : decode (pz_b 106) 0 = .ok (.aload_n 0, 1) := by decide +kernel
theorem q106_0 {dA : Nat → ClassId} {d : Nat} {st : List Value} {f : pz_F} {Q : Option Value → pz_F → Prop} {v1 : Value} {x : Nat} : pz_R dA d 106 0 [.ref x, v1] st f Q = pz_R dA d 106 1 [.ref x, v1] (.ref x :: st) f Q := pz_go (pz_so d106_0 rfl)
theorem d106_1 : decode (pz_b 106) 1 = .ok (.iconst 5, 1) := by decide +kernel
theorem q106_1 {dA : Nat → ClassId} {d : Nat} {st : List Value} {f : pz_F} {Q : Option Value → pz_F → Prop} {v0 v1 : Value} : pz_R dA d 106 1 [v0, v1] st f Q = pz_R dA d 106 2 [v0, v1] (.int 5 :: st) f Q := pz_go (pz_so d106_1 rfl)
theorem d106_2 : decode (pz_b 106) 2 = .ok (.iload_n 1, 1) := by decide +kernel
theorem q106_2 {dA : Nat → ClassId} {d : Nat} {st : List Value} {f : pz_F} {Q : Option Value → pz_F → Prop} {v0 : Value} {x : Int32} : pz_R dA d 106 2 [v0, .int x] st f Q = pz_R dA d 106 3 [v0, .int x] (.int x :: st) f Q := pz_go (pz_so d106_2 rfl)
theorem d106_3 : decode (pz_b 106) 3 = .ok (.iconst 1, 1) := by decide +kernel
theorem q106_3 {dA : Nat → ClassId} {d : Nat} {st : List Value} {f : pz_F} {Q : Option Value → pz_F → Prop} {v0 v1 : Value} : pz_R dA d 106 3 [v0, v1] st f Q = pz_R dA d 106 4 [v0, v1] (.int 1 :: st) f Q := pz_go (pz_so d106_3 rfl)
theorem d106_4 : decode (pz_b 106) 4 = .ok (.iload_n 1, 1) := by decide +kernel
theorem q106_4 {dA : Nat → ClassId} {d : Nat} {st : List Value} {f : pz_F} {Q : Option Value → pz_F → Prop} {v0 : Value} {x : Int32} : pz_R dA d 106 4 [v0, .int x] st f Q = pz_R dA d 106 5 [v0, .int x] (.int x :: st) f Q := pz_go (pz_so d106_4 rfl)
theorem d106_5 : decode (pz_b 106) 5 = .ok (.isub, 1) := by decide +kernel
theorem q106_5 {dA : Nat → ClassId} {d : Nat} {st : List Value} {f : pz_F} {Q : Option Value → pz_F → Prop} {v0 v1 : Value} {x y : Int32} : pz_R dA d 106 5 [v0, v1] (.int y :: .int x :: st) f Q = pz_R dA d 106 6 [v0, v1] (.int (x - y) :: st) f Q := pz_go (pz_so d106_5 rfl)
theorem d106_6 : decode (pz_b 106) 6 = .ok (.aload_n 0, 1) := by decide +kernel
theorem q106_6 {dA : Nat → ClassId} {d : Nat} {st : List Value} {f : pz_F} {Q : Option Value → pz_F → Prop} {v1 : Value} {x : Nat} : pz_R dA d 106 6 [.ref x, v1] st f Q = pz_R dA d 106 7 [.ref x, v1] (.ref x :: st) f Q := pz_go (pz_so d106_6 rfl)
theorem d106_7 : decode (pz_b 106) 7 = .ok (.getfield 72, 3) := by decide +kernel
theorem q106_7 {dA : Nat → ClassId} {d : Nat} {st : List Value} {f : pz_F} {Q : Option Value → pz_F → Prop} {v0 v1 : Value} {a : Nat} : pz_R dA d 106 7 [v0, v1] (.ref a :: st) f Q = pz_o (pz_gf f a 6 22) (fun v => pz_R dA d 106 10 [v0, v1] (v :: st) f Q) := pz_gg d106_7 rfl
theorem d106_10 : decode (pz_b 106) 10 = .ok (.iconst 3, 1) := by decide +kernel
theorem q106_10 {dA : Nat → ClassId} {d : Nat} {st : List Value} {f : pz_F} {Q : Option Value → pz_F → Prop} {v0 v1 : Value} : pz_R dA d 106 10 [v0, v1] st f Q = pz_R dA d 106 11 [v0, v1] (.int 3 :: st) f Q := pz_go (pz_so d106_10 rfl)
theorem d106_11 : decode (pz_b 106) 11 = .ok (.iaload, 1) := by decide +kernel
theorem q106_11 {dA : Nat → ClassId} {d : Nat} {st : List Value} {f : pz_F} {Q : Option Value → pz_F → Prop} {v0 v1 : Value} {i : Int32} {a : Nat} : pz_R dA d 106 11 [v0, v1] (.int i :: .ref a :: st) f Q = pz_o (pz_il (dA 0) f a i) (fun x => pz_R dA d 106 12 [v0, v1] (.int x :: st) f Q) := pz_gil d106_11
theorem d106_12 : decode (pz_b 106) 12 = .ok (.aload_n 0, 1) := by decide +kernel
theorem q106_12 {dA : Nat → ClassId} {d : Nat} {st : List Value} {f : pz_F} {Q : Option Value → pz_F → Prop} {v1 : Value} {x : Nat} : pz_R dA d 106 12 [.ref x, v1] st f Q = pz_R dA d 106 13 [.ref x, v1] (.ref x :: st) f Q := pz_go (pz_so d106_12 rfl)
theorem d106_13 : decode (pz_b 106) 13 = .ok (.getfield 72, 3) := by decide +kernel
theorem q106_13 {dA : Nat → ClassId} {d : Nat} {st : List Value} {f : pz_F} {Q : Option Value → pz_F → Prop} {v0 v1 : Value} {a : Nat} : pz_R dA d 106 13 [v0, v1] (.ref a :: st) f Q = pz_o (pz_gf f a 6 22) (fun v => pz_R dA d 106 16 [v0, v1] (v :: st) f Q) := pz_gg d106_13 rfl
theorem d106_16 : decode (pz_b 106) 16 = .ok (.bipush 9, 2) := by decide +kernel
theorem q106_16 {dA : Nat → ClassId} {d : Nat} {st : List Value} {f : pz_F} {Q : Option Value → pz_F → Prop} {v0 v1 : Value} : pz_R dA d 106 16 [v0, v1] st f Q = pz_R dA d 106 18 [v0, v1] (.int 9 :: st) f Q := pz_go (pz_so d106_16 rfl)
theorem d106_18 : decode (pz_b 106) 18 = .ok (.iaload, 1) := by decide +kernel
theorem q106_18 {dA : Nat → ClassId} {d : Nat} {st : List Value} {f : pz_F} {Q : Option Value → pz_F → Prop} {v0 v1 : Value} {i : Int32} {a : Nat} : pz_R dA d 106 18 [v0, v1] (.int i :: .ref a :: st) f Q = pz_o (pz_il (dA 0) f a i) (fun x => pz_R dA d 106 19 [v0, v1] (.int x :: st) f Q) := pz_gil d106_18
theorem d106_19 : decode (pz_b 106) 19 = .ok (.invokevirtual 100, 3) := by decide +kernel
theorem q106_19 {dA : Nat → ClassId} {d : Nat} {st : List Value} {f : pz_F} {Q : Option Value → pz_F → Prop} {v0 v1 : Value} {c0 : Int32} {c1 : Int32} {c2 : Int32} {c3 : Int32} {c4 : Int32} {b : Nat} (hr : st.length ≤ 4) : pz_R dA (d + 1) 106 19 [v0, v1] (.int c4 :: .int c3 :: .int c2 :: .int c1 :: .int c0 :: .ref b :: st) f Q = pz_o (pz_gu f b 6) (fun _ => pz_C dA d 94 [.ref b, .int c0, .int c1, .int c2, .int c3, .int c4] f (fun r f' => pz_R dA (d + 1) 106 22 [v0, v1] (r.toList ++ st) f' Q)) := pz_gcv (As := [.int c0, .int c1, .int c2, .int c3, .int c4]) d106_19 rfl rfl rfl hr
theorem d106_22 : decode (pz_b 106) 22 = .ok (.aload_n 0, 1) := by decide +kernel
theorem q106_22 {dA : Nat → ClassId} {d : Nat} {st : List Value} {f : pz_F} {Q : Option Value → pz_F → Prop} {v1 : Value} {x : Nat} : pz_R dA d 106 22 [.ref x, v1] st f Q = pz_R dA d 106 23 [.ref x, v1] (.ref x :: st) f Q := pz_go (pz_so d106_22 rfl)
theorem d106_23 : decode (pz_b 106) 23 = .ok (.getfield 75, 3) := by decide +kernel
theorem q106_23 {dA : Nat → ClassId} {d : Nat} {st : List Value} {f : pz_F} {Q : Option Value → pz_F → Prop} {v0 v1 : Value} {a : Nat} : pz_R dA d 106 23 [v0, v1] (.ref a :: st) f Q = pz_o (pz_gf f a 6 23) (fun v => pz_R dA d 106 26 [v0, v1] (v :: st) f Q) := pz_gg d106_23 rfl
theorem d106_26 : decode (pz_b 106) 26 = .ok (.bipush 8, 2) := by decide +kernel
theorem q106_26 {dA : Nat → ClassId} {d : Nat} {st : List Value} {f : pz_F} {Q : Option Value → pz_F → Prop} {v0 v1 : Value} : pz_R dA d 106 26 [v0, v1] st f Q = pz_R dA d 106 28 [v0, v1] (.int 8 :: st) f Q := pz_go (pz_so d106_26 rfl)
theorem d106_28 : decode (pz_b 106) 28 = .ok (.aload_n 0, 1) := by decide +kernel
theorem q106_28 {dA : Nat → ClassId} {d : Nat} {st : List Value} {f : pz_F} {Q : Option Value → pz_F → Prop} {v1 : Value} {x : Nat} : pz_R dA d 106 28 [.ref x, v1] st f Q = pz_R dA d 106 29 [.ref x, v1] (.ref x :: st) f Q := pz_go (pz_so d106_28 rfl)
theorem d106_29 : decode (pz_b 106) 29 = .ok (.getfield 72, 3) := by decide +kernel
theorem q106_29 {dA : Nat → ClassId} {d : Nat} {st : List Value} {f : pz_F} {Q : Option Value → pz_F → Prop} {v0 v1 : Value} {a : Nat} : pz_R dA d 106 29 [v0, v1] (.ref a :: st) f Q = pz_o (pz_gf f a 6 22) (fun v => pz_R dA d 106 32 [v0, v1] (v :: st) f Q) := pz_gg d106_29 rfl
theorem d106_32 : decode (pz_b 106) 32 = .ok (.bipush 8, 2) := by decide +kernel
theorem q106_32 {dA : Nat → ClassId} {d : Nat} {st : List Value} {f : pz_F} {Q : Option Value → pz_F → Prop} {v0 v1 : Value} : pz_R dA d 106 32 [v0, v1] st f Q = pz_R dA d 106 34 [v0, v1] (.int 8 :: st) f Q := pz_go (pz_so d106_32 rfl)
theorem d106_34 : decode (pz_b 106) 34 = .ok (.iaload, 1) := by decide +kernel
theorem q106_34 {dA : Nat → ClassId} {d : Nat} {st : List Value} {f : pz_F} {Q : Option Value → pz_F → Prop} {v0 v1 : Value} {i : Int32} {a : Nat} : pz_R dA d 106 34 [v0, v1] (.int i :: .ref a :: st) f Q = pz_o (pz_il (dA 0) f a i) (fun x => pz_R dA d 106 35 [v0, v1] (.int x :: st) f Q) := pz_gil d106_34
theorem d106_35 : decode (pz_b 106) 35 = .ok (.iastore, 1) := by decide +kernel
theorem q106_35 {dA : Nat → ClassId} {d : Nat} {st : List Value} {f : pz_F} {Q : Option Value → pz_F → Prop} {v0 v1 : Value} {x i : Int32} {a : Nat} : pz_R dA d 106 35 [v0, v1] (.int x :: .int i :: .ref a :: st) f Q = pz_o (pz_is (dA 0) f a i x) (fun f' => pz_R dA d 106 36 [v0, v1] st f' Q) := pz_gis d106_35
theorem d106_36 : decode (pz_b 106) 36 = .ok (.aload_n 0, 1) := by decide +kernel
theorem q106_36 {dA : Nat → ClassId} {d : Nat} {st : List Value} {f : pz_F} {Q : Option Value → pz_F → Prop} {v1 : Value} {x : Nat} : pz_R dA d 106 36 [.ref x, v1] st f Q = pz_R dA d 106 37 [.ref x, v1] (.ref x :: st) f Q := pz_go (pz_so d106_36 rfl)
theorem d106_37 : decode (pz_b 106) 37 = .ok (.getfield 75, 3) := by decide +kernel
theorem q106_37 {dA : Nat → ClassId} {d : Nat} {st : List Value} {f : pz_F} {Q : Option Value → pz_F → Prop} {v0 v1 : Value} {a : Nat} : pz_R dA d 106 37 [v0, v1] (.ref a :: st) f Q = pz_o (pz_gf f a 6 23) (fun v => pz_R dA d 106 40 [v0, v1] (v :: st) f Q) := pz_gg d106_37 rfl
theorem d106_40 : decode (pz_b 106) 40 = .ok (.bipush 9, 2) := by decide +kernel
theorem q106_40 {dA : Nat → ClassId} {d : Nat} {st : List Value} {f : pz_F} {Q : Option Value → pz_F → Prop} {v0 v1 : Value} : pz_R dA d 106 40 [v0, v1] st f Q = pz_R dA d 106 42 [v0, v1] (.int 9 :: st) f Q := pz_go (pz_so d106_40 rfl)
theorem d106_42 : decode (pz_b 106) 42 = .ok (.aload_n 0, 1) := by decide +kernel
theorem q106_42 {dA : Nat → ClassId} {d : Nat} {st : List Value} {f : pz_F} {Q : Option Value → pz_F → Prop} {v1 : Value} {x : Nat} : pz_R dA d 106 42 [.ref x, v1] st f Q = pz_R dA d 106 43 [.ref x, v1] (.ref x :: st) f Q := pz_go (pz_so d106_42 rfl)
theorem d106_43 : decode (pz_b 106) 43 = .ok (.getfield 72, 3) := by decide +kernel
theorem q106_43 {dA : Nat → ClassId} {d : Nat} {st : List Value} {f : pz_F} {Q : Option Value → pz_F → Prop} {v0 v1 : Value} {a : Nat} : pz_R dA d 106 43 [v0, v1] (.ref a :: st) f Q = pz_o (pz_gf f a 6 22) (fun v => pz_R dA d 106 46 [v0, v1] (v :: st) f Q) := pz_gg d106_43 rfl
theorem d106_46 : decode (pz_b 106) 46 = .ok (.bipush 9, 2) := by decide +kernel
theorem q106_46 {dA : Nat → ClassId} {d : Nat} {st : List Value} {f : pz_F} {Q : Option Value → pz_F → Prop} {v0 v1 : Value} : pz_R dA d 106 46 [v0, v1] st f Q = pz_R dA d 106 48 [v0, v1] (.int 9 :: st) f Q := pz_go (pz_so d106_46 rfl)
theorem d106_48 : decode (pz_b 106) 48 = .ok (.iaload, 1) := by decide +kernel
theorem q106_48 {dA : Nat → ClassId} {d : Nat} {st : List Value} {f : pz_F} {Q : Option Value → pz_F → Prop} {v0 v1 : Value} {i : Int32} {a : Nat} : pz_R dA d 106 48 [v0, v1] (.int i :: .ref a :: st) f Q = pz_o (pz_il (dA 0) f a i) (fun x => pz_R dA d 106 49 [v0, v1] (.int x :: st) f Q) := pz_gil d106_48
theorem d106_49 : decode (pz_b 106) 49 = .ok (.iastore, 1) := by decide +kernel
theorem q106_49 {dA : Nat → ClassId} {d : Nat} {st : List Value} {f : pz_F} {Q : Option Value → pz_F → Prop} {v0 v1 : Value} {x i : Int32} {a : Nat} : pz_R dA d 106 49 [v0, v1] (.int x :: .int i :: .ref a :: st) f Q = pz_o (pz_is (dA 0) f a i x) (fun f' => pz_R dA d 106 50 [v0, v1] st f' Q) := pz_gis d106_49
theorem d106_50 : decode (pz_b 106) 50 = .ok (.aload_n 0, 1) := by decide +kernel
theorem q106_50 {dA : Nat → ClassId} {d : Nat} {st : List Value} {f : pz_F} {Q : Option Value → pz_F → Prop} {v1 : Value} {x : Nat} : pz_R dA d 106 50 [.ref x, v1] st f Q = pz_R dA d 106 51 [.ref x, v1] (.ref x :: st) f Q := pz_go (pz_so d106_50 rfl)
theorem d106_51 : decode (pz_b 106) 51 = .ok (.getfield 75, 3) := by decide +kernel
theorem q106_51 {dA : Nat → ClassId} {d : Nat} {st : List Value} {f : pz_F} {Q : Option Value → pz_F → Prop} {v0 v1 : Value} {a : Nat} : pz_R dA d 106 51 [v0, v1] (.ref a :: st) f Q = pz_o (pz_gf f a 6 23) (fun v => pz_R dA d 106 54 [v0, v1] (v :: st) f Q) := pz_gg d106_51 rfl
theorem d106_54 : decode (pz_b 106) 54 = .ok (.bipush 10, 2) := by decide +kernel
theorem q106_54 {dA : Nat → ClassId} {d : Nat} {st : List Value} {f : pz_F} {Q : Option Value → pz_F → Prop} {v0 v1 : Value} : pz_R dA d 106 54 [v0, v1] st f Q = pz_R dA d 106 56 [v0, v1] (.int 10 :: st) f Q := pz_go (pz_so d106_54 rfl)
theorem d106_56 : decode (pz_b 106) 56 = .ok (.aload_n 0, 1) := by decide +kernel
theorem q106_56 {dA : Nat → ClassId} {d : Nat} {st : List Value} {f : pz_F} {Q : Option Value → pz_F → Prop} {v1 : Value} {x : Nat} : pz_R dA d 106 56 [.ref x, v1] st f Q = pz_R dA d 106 57 [.ref x, v1] (.ref x :: st) f Q := pz_go (pz_so d106_56 rfl)
theorem d106_57 : decode (pz_b 106) 57 = .ok (.getfield 72, 3) := by decide +kernel
theorem q106_57 {dA : Nat → ClassId} {d : Nat} {st : List Value} {f : pz_F} {Q : Option Value → pz_F → Prop} {v0 v1 : Value} {a : Nat} : pz_R dA d 106 57 [v0, v1] (.ref a :: st) f Q = pz_o (pz_gf f a 6 22) (fun v => pz_R dA d 106 60 [v0, v1] (v :: st) f Q) := pz_gg d106_57 rfl
theorem d106_60 : decode (pz_b 106) 60 = .ok (.bipush 10, 2) := by decide +kernel
theorem q106_60 {dA : Nat → ClassId} {d : Nat} {st : List Value} {f : pz_F} {Q : Option Value → pz_F → Prop} {v0 v1 : Value} : pz_R dA d 106 60 [v0, v1] st f Q = pz_R dA d 106 62 [v0, v1] (.int 10 :: st) f Q := pz_go (pz_so d106_60 rfl)
theorem d106_62 : decode (pz_b 106) 62 = .ok (.iaload, 1) := by decide +kernel
theorem q106_62 {dA : Nat → ClassId} {d : Nat} {st : List Value} {f : pz_F} {Q : Option Value → pz_F → Prop} {v0 v1 : Value} {i : Int32} {a : Nat} : pz_R dA d 106 62 [v0, v1] (.int i :: .ref a :: st) f Q = pz_o (pz_il (dA 0) f a i) (fun x => pz_R dA d 106 63 [v0, v1] (.int x :: st) f Q) := pz_gil d106_62
theorem d106_63 : decode (pz_b 106) 63 = .ok (.iastore, 1) := by decide +kernel
theorem q106_63 {dA : Nat → ClassId} {d : Nat} {st : List Value} {f : pz_F} {Q : Option Value → pz_F → Prop} {v0 v1 : Value} {x i : Int32} {a : Nat} : pz_R dA d 106 63 [v0, v1] (.int x :: .int i :: .ref a :: st) f Q = pz_o (pz_is (dA 0) f a i x) (fun f' => pz_R dA d 106 64 [v0, v1] st f' Q) := pz_gis d106_63
theorem d106_64 : decode (pz_b 106) 64 = .ok (.aload_n 0, 1) := by decide +kernel
theorem q106_64 {dA : Nat → ClassId} {d : Nat} {st : List Value} {f : pz_F} {Q : Option Value → pz_F → Prop} {v1 : Value} {x : Nat} : pz_R dA d 106 64 [.ref x, v1] st f Q = pz_R dA d 106 65 [.ref x, v1] (.ref x :: st) f Q := pz_go (pz_so d106_64 rfl)
theorem d106_65 : decode (pz_b 106) 65 = .ok (.invokevirtual 104, 3) := by decide +kernel
theorem q106_65 {dA : Nat → ClassId} {d : Nat} {st : List Value} {f : pz_F} {Q : Option Value → pz_F → Prop} {v0 v1 : Value} {b : Nat} (hr : st.length ≤ 4) : pz_R dA (d + 1) 106 65 [v0, v1] (.ref b :: st) f Q = pz_o (pz_gu f b 6) (fun _ => pz_C dA d 95 [.ref b] f (fun r f' => pz_R dA (d + 1) 106 68 [v0, v1] (r.toList ++ st) f' Q)) := pz_gcv (As := []) d106_65 rfl rfl rfl hr
theorem d106_68 : decode (pz_b 106) 68 = .ok (.return_, 1) := by decide +kernel
theorem q106_68 {dA : Nat → ClassId} {d : Nat} {f : pz_F} {Q : Option Value → pz_F → Prop} {v0 v1 : Value} : pz_R dA d 106 68 [v0, v1] [] f Q = Q none f := pz_gr (pz_so d106_68 rfl)
/-! X_becomes (I)V -/
theorem e107 {dA : Nat → ClassId} {d : Nat} {f : pz_F} {Q : Option Value → pz_F → Prop} {a0 : Nat} {a1 : Int32} : pz_C dA d 107 [.ref a0, .int a1] f Q = pz_R dA d 107 0 [.ref a0, .int a1] [] f Q := rfl
theorem d107_0 : decode (pz_b 107) 0 = .ok (.aload_n 0, 1) := by decide +kernel
theorem q107_0 {dA : Nat → ClassId} {d : Nat} {st : List Value} {f : pz_F} {Q : Option Value → pz_F → Prop} {v1 : Value} {x : Nat} : pz_R dA d 107 0 [.ref x, v1] st f Q = pz_R dA d 107 1 [.ref x, v1] (.ref x :: st) f Q := pz_go (pz_so d107_0 rfl)
theorem d107_1 : decode (pz_b 107) 1 = .ok (.iload_n 1, 1) := by decide +kernel
theorem q107_1 {dA : Nat → ClassId} {d : Nat} {st : List Value} {f : pz_F} {Q : Option Value → pz_F → Prop} {v0 : Value} {x : Int32} : pz_R dA d 107 1 [v0, .int x] st f Q = pz_R dA d 107 2 [v0, .int x] (.int x :: st) f Q := pz_go (pz_so d107_1 rfl)
theorem d107_2 : decode (pz_b 107) 2 = .ok (.invokevirtual 117, 3) := by decide +kernel
theorem q107_2 {dA : Nat → ClassId} {d : Nat} {st : List Value} {f : pz_F} {Q : Option Value → pz_F → Prop} {v0 v1 : Value} {c0 : Int32} {b : Nat} (hr : st.length ≤ 4) : pz_R dA (d + 1) 107 2 [v0, v1] (.int c0 :: .ref b :: st) f Q = pz_o (pz_gu f b 6) (fun _ => pz_C dA d 98 [.ref b, .int c0] f (fun r f' => pz_R dA (d + 1) 107 5 [v0, v1] (r.toList ++ st) f' Q)) := pz_gcv (As := [.int c0]) d107_2 rfl rfl rfl hr
theorem d107_5 : decode (pz_b 107) 5 = .ok (.aload_n 0, 1) := by decide +kernel
theorem q107_5 {dA : Nat → ClassId} {d : Nat} {st : List Value} {f : pz_F} {Q : Option Value → pz_F → Prop} {v1 : Value} {x : Nat} : pz_R dA d 107 5 [.ref x, v1] st f Q = pz_R dA d 107 6 [.ref x, v1] (.ref x :: st) f Q := pz_go (pz_so d107_5 rfl)
theorem d107_6 : decode (pz_b 107) 6 = .ok (.getfield 44, 3) := by decide +kernel
theorem q107_6 {dA : Nat → ClassId} {d : Nat} {st : List Value} {f : pz_F} {Q : Option Value → pz_F → Prop} {v0 v1 : Value} {a : Nat} : pz_R dA d 107 6 [v0, v1] (.ref a :: st) f Q = pz_o (pz_gf f a 6 12) (fun v => pz_R dA d 107 9 [v0, v1] (v :: st) f Q) := pz_gg d107_6 rfl
theorem d107_9 : decode (pz_b 107) 9 = .ok (.iload_n 1, 1) := by decide +kernel
theorem q107_9 {dA : Nat → ClassId} {d : Nat} {st : List Value} {f : pz_F} {Q : Option Value → pz_F → Prop} {v0 : Value} {x : Int32} : pz_R dA d 107 9 [v0, .int x] st f Q = pz_R dA d 107 10 [v0, .int x] (.int x :: st) f Q := pz_go (pz_so d107_9 rfl)
theorem d107_10 : decode (pz_b 107) 10 = .ok (.aload_n 0, 1) := by decide +kernel
theorem q107_10 {dA : Nat → ClassId} {d : Nat} {st : List Value} {f : pz_F} {Q : Option Value → pz_F → Prop} {v1 : Value} {x : Nat} : pz_R dA d 107 10 [.ref x, v1] st f Q = pz_R dA d 107 11 [.ref x, v1] (.ref x :: st) f Q := pz_go (pz_so d107_10 rfl)
theorem d107_11 : decode (pz_b 107) 11 = .ok (.getfield 72, 3) := by decide +kernel
theorem q107_11 {dA : Nat → ClassId} {d : Nat} {st : List Value} {f : pz_F} {Q : Option Value → pz_F → Prop} {v0 v1 : Value} {a : Nat} : pz_R dA d 107 11 [v0, v1] (.ref a :: st) f Q = pz_o (pz_gf f a 6 22) (fun v => pz_R dA d 107 14 [v0, v1] (v :: st) f Q) := pz_gg d107_11 rfl
theorem d107_14 : decode (pz_b 107) 14 = .ok (.bipush 8, 2) := by decide +kernel
theorem q107_14 {dA : Nat → ClassId} {d : Nat} {st : List Value} {f : pz_F} {Q : Option Value → pz_F → Prop} {v0 v1 : Value} : pz_R dA d 107 14 [v0, v1] st f Q = pz_R dA d 107 16 [v0, v1] (.int 8 :: st) f Q := pz_go (pz_so d107_14 rfl)
theorem d107_16 : decode (pz_b 107) 16 = .ok (.iaload, 1) := by decide +kernel
theorem q107_16 {dA : Nat → ClassId} {d : Nat} {st : List Value} {f : pz_F} {Q : Option Value → pz_F → Prop} {v0 v1 : Value} {i : Int32} {a : Nat} : pz_R dA d 107 16 [v0, v1] (.int i :: .ref a :: st) f Q = pz_o (pz_il (dA 0) f a i) (fun x => pz_R dA d 107 17 [v0, v1] (.int x :: st) f Q) := pz_gil d107_16
theorem d107_17 : decode (pz_b 107) 17 = .ok (.iastore, 1) := by decide +kernel
theorem q107_17 {dA : Nat → ClassId} {d : Nat} {st : List Value} {f : pz_F} {Q : Option Value → pz_F → Prop} {v0 v1 : Value} {x i : Int32} {a : Nat} : pz_R dA d 107 17 [v0, v1] (.int x :: .int i :: .ref a :: st) f Q = pz_o (pz_is (dA 0) f a i x) (fun f' => pz_R dA d 107 18 [v0, v1] st f' Q) := pz_gis d107_17
theorem d107_18 : decode (pz_b 107) 18 = .ok (.aload_n 0, 1) := by decide +kernel
theorem q107_18 {dA : Nat → ClassId} {d : Nat} {st : List Value} {f : pz_F} {Q : Option Value → pz_F → Prop} {v1 : Value} {x : Nat} : pz_R dA d 107 18 [.ref x, v1] st f Q = pz_R dA d 107 19 [.ref x, v1] (.ref x :: st) f Q := pz_go (pz_so d107_18 rfl)
theorem d107_19 : decode (pz_b 107) 19 = .ok (.getfield 50, 3) := by decide +kernel
theorem q107_19 {dA : Nat → ClassId} {d : Nat} {st : List Value} {f : pz_F} {Q : Option Value → pz_F → Prop} {v0 v1 : Value} {a : Nat} : pz_R dA d 107 19 [v0, v1] (.ref a :: st) f Q = pz_o (pz_gf f a 6 14) (fun v => pz_R dA d 107 22 [v0, v1] (v :: st) f Q) := pz_gg d107_19 rfl
theorem d107_22 : decode (pz_b 107) 22 = .ok (.iload_n 1, 1) := by decide +kernel
theorem q107_22 {dA : Nat → ClassId} {d : Nat} {st : List Value} {f : pz_F} {Q : Option Value → pz_F → Prop} {v0 : Value} {x : Int32} : pz_R dA d 107 22 [v0, .int x] st f Q = pz_R dA d 107 23 [v0, .int x] (.int x :: st) f Q := pz_go (pz_so d107_22 rfl)
theorem d107_23 : decode (pz_b 107) 23 = .ok (.iconst 0, 1) := by decide +kernel
theorem q107_23 {dA : Nat → ClassId} {d : Nat} {st : List Value} {f : pz_F} {Q : Option Value → pz_F → Prop} {v0 v1 : Value} : pz_R dA d 107 23 [v0, v1] st f Q = pz_R dA d 107 24 [v0, v1] (.int 0 :: st) f Q := pz_go (pz_so d107_23 rfl)
theorem d107_24 : decode (pz_b 107) 24 = .ok (.bastore, 1) := by decide +kernel
theorem q107_24z {dA : Nat → ClassId} {d : Nat} {st : List Value} {f : pz_F} {Q : Option Value → pz_F → Prop} {v0 v1 : Value} {i : Int32} {a : Nat} : pz_R dA d 107 24 [v0, v1] (.int 0 :: .int i :: .ref a :: st) f Q = pz_o (pz_is (dA 1) f a i 0) (fun f' => pz_R dA d 107 25 [v0, v1] st f' Q) := pz_gzs d107_24 rfl
theorem q107_24o {dA : Nat → ClassId} {d : Nat} {st : List Value} {f : pz_F} {Q : Option Value → pz_F → Prop} {v0 v1 : Value} {i : Int32} {a : Nat} : pz_R dA d 107 24 [v0, v1] (.int 1 :: .int i :: .ref a :: st) f Q = pz_o (pz_is (dA 1) f a i 1) (fun f' => pz_R dA d 107 25 [v0, v1] st f' Q) := pz_gzs d107_24 rfl
theorem d107_25 : decode (pz_b 107) 25 = .ok (.aload_n 0, 1) := by decide +kernel
theorem q107_25 {dA : Nat → ClassId} {d : Nat} {st : List Value} {f : pz_F} {Q : Option Value → pz_F → Prop} {v1 : Value} {x : Nat} : pz_R dA d 107 25 [.ref x, v1] st f Q = pz_R dA d 107 26 [.ref x, v1] (.ref x :: st) f Q := pz_go (pz_so d107_25 rfl)
theorem d107_26 : decode (pz_b 107) 26 = .ok (.getfield 72, 3) := by decide +kernel
theorem q107_26 {dA : Nat → ClassId} {d : Nat} {st : List Value} {f : pz_F} {Q : Option Value → pz_F → Prop} {v0 v1 : Value} {a : Nat} : pz_R dA d 107 26 [v0, v1] (.ref a :: st) f Q = pz_o (pz_gf f a 6 22) (fun v => pz_R dA d 107 29 [v0, v1] (v :: st) f Q) := pz_gg d107_26 rfl
theorem d107_29 : decode (pz_b 107) 29 = .ok (.iconst 4, 1) := by decide +kernel
theorem q107_29 {dA : Nat → ClassId} {d : Nat} {st : List Value} {f : pz_F} {Q : Option Value → pz_F → Prop} {v0 v1 : Value} : pz_R dA d 107 29 [v0, v1] st f Q = pz_R dA d 107 30 [v0, v1] (.int 4 :: st) f Q := pz_go (pz_so d107_29 rfl)
theorem d107_30 : decode (pz_b 107) 30 = .ok (.iaload, 1) := by decide +kernel
theorem q107_30 {dA : Nat → ClassId} {d : Nat} {st : List Value} {f : pz_F} {Q : Option Value → pz_F → Prop} {v0 v1 : Value} {i : Int32} {a : Nat} : pz_R dA d 107 30 [v0, v1] (.int i :: .ref a :: st) f Q = pz_o (pz_il (dA 0) f a i) (fun x => pz_R dA d 107 31 [v0, v1] (.int x :: st) f Q) := pz_gil d107_30
theorem d107_31 : decode (pz_b 107) 31 = .ok (.iconst 1, 1) := by decide +kernel
theorem q107_31 {dA : Nat → ClassId} {d : Nat} {st : List Value} {f : pz_F} {Q : Option Value → pz_F → Prop} {v0 v1 : Value} : pz_R dA d 107 31 [v0, v1] st f Q = pz_R dA d 107 32 [v0, v1] (.int 1 :: st) f Q := pz_go (pz_so d107_31 rfl)
theorem d107_32 : decode (pz_b 107) 32 = .ok (.if_icmp .eq 4, 3) := by decide +kernel
theorem q107_32 {dA : Nat → ClassId} {d : Nat} {st : List Value} {f : pz_F} {Q : Option Value → pz_F → Prop} {v0 v1 : Value} {x y : Int32} : pz_R dA d 107 32 [v0, v1] (.int y :: .int x :: st) f Q = (if x = y then pz_R dA d 107 36 [v0, v1] st f Q else pz_R dA d 107 35 [v0, v1] st f Q) := pz_gjn .eq d107_32 rfl
theorem d107_35 : decode (pz_b 107) 35 = .ok (.return_, 1) := by decide +kernel
theorem q107_35 {dA : Nat → ClassId} {d : Nat} {f : pz_F} {Q : Option Value → pz_F → Prop} {v0 v1 : Value} : pz_R dA d 107 35 [v0, v1] [] f Q = Q none f := pz_gr (pz_so d107_35 rfl)
theorem d107_36 : decode (pz_b 107) 36 = .ok (.aload_n 0, 1) := by decide +kernel
theorem q107_36 {dA : Nat → ClassId} {d : Nat} {st : List Value} {f : pz_F} {Q : Option Value → pz_F → Prop} {v1 : Value} {x : Nat} : pz_R dA d 107 36 [.ref x, v1] st f Q = pz_R dA d 107 37 [.ref x, v1] (.ref x :: st) f Q := pz_go (pz_so d107_36 rfl)
theorem d107_37 : decode (pz_b 107) 37 = .ok (.getfield 29, 3) := by decide +kernel
theorem q107_37 {dA : Nat → ClassId} {d : Nat} {st : List Value} {f : pz_F} {Q : Option Value → pz_F → Prop} {v0 v1 : Value} {a : Nat} : pz_R dA d 107 37 [v0, v1] (.ref a :: st) f Q = pz_o (pz_gf f a 6 7) (fun v => pz_R dA d 107 40 [v0, v1] (v :: st) f Q) := pz_gg d107_37 rfl
theorem d107_40 : decode (pz_b 107) 40 = .ok (.iload_n 1, 1) := by decide +kernel
theorem q107_40 {dA : Nat → ClassId} {d : Nat} {st : List Value} {f : pz_F} {Q : Option Value → pz_F → Prop} {v0 : Value} {x : Int32} : pz_R dA d 107 40 [v0, .int x] st f Q = pz_R dA d 107 41 [v0, .int x] (.int x :: st) f Q := pz_go (pz_so d107_40 rfl)
theorem d107_41 : decode (pz_b 107) 41 = .ok (.iconst 1, 1) := by decide +kernel
theorem q107_41 {dA : Nat → ClassId} {d : Nat} {st : List Value} {f : pz_F} {Q : Option Value → pz_F → Prop} {v0 v1 : Value} : pz_R dA d 107 41 [v0, v1] st f Q = pz_R dA d 107 42 [v0, v1] (.int 1 :: st) f Q := pz_go (pz_so d107_41 rfl)
theorem d107_42 : decode (pz_b 107) 42 = .ok (.iastore, 1) := by decide +kernel
theorem q107_42 {dA : Nat → ClassId} {d : Nat} {st : List Value} {f : pz_F} {Q : Option Value → pz_F → Prop} {v0 v1 : Value} {x i : Int32} {a : Nat} : pz_R dA d 107 42 [v0, v1] (.int x :: .int i :: .ref a :: st) f Q = pz_o (pz_is (dA 0) f a i x) (fun f' => pz_R dA d 107 43 [v0, v1] st f' Q) := pz_gis d107_42
theorem d107_43 : decode (pz_b 107) 43 = .ok (.aload_n 0, 1) := by decide +kernel
theorem q107_43 {dA : Nat → ClassId} {d : Nat} {st : List Value} {f : pz_F} {Q : Option Value → pz_F → Prop} {v1 : Value} {x : Nat} : pz_R dA d 107 43 [.ref x, v1] st f Q = pz_R dA d 107 44 [.ref x, v1] (.ref x :: st) f Q := pz_go (pz_so d107_43 rfl)
theorem d107_44 : decode (pz_b 107) 44 = .ok (.getfield 32, 3) := by decide +kernel
theorem q107_44 {dA : Nat → ClassId} {d : Nat} {st : List Value} {f : pz_F} {Q : Option Value → pz_F → Prop} {v0 v1 : Value} {a : Nat} : pz_R dA d 107 44 [v0, v1] (.ref a :: st) f Q = pz_o (pz_gf f a 6 8) (fun v => pz_R dA d 107 47 [v0, v1] (v :: st) f Q) := pz_gg d107_44 rfl
theorem d107_47 : decode (pz_b 107) 47 = .ok (.iload_n 1, 1) := by decide +kernel
theorem q107_47 {dA : Nat → ClassId} {d : Nat} {st : List Value} {f : pz_F} {Q : Option Value → pz_F → Prop} {v0 : Value} {x : Int32} : pz_R dA d 107 47 [v0, .int x] st f Q = pz_R dA d 107 48 [v0, .int x] (.int x :: st) f Q := pz_go (pz_so d107_47 rfl)
theorem d107_48 : decode (pz_b 107) 48 = .ok (.aload_n 0, 1) := by decide +kernel
theorem q107_48 {dA : Nat → ClassId} {d : Nat} {st : List Value} {f : pz_F} {Q : Option Value → pz_F → Prop} {v1 : Value} {x : Nat} : pz_R dA d 107 48 [.ref x, v1] st f Q = pz_R dA d 107 49 [.ref x, v1] (.ref x :: st) f Q := pz_go (pz_so d107_48 rfl)
theorem d107_49 : decode (pz_b 107) 49 = .ok (.getfield 72, 3) := by decide +kernel
theorem q107_49 {dA : Nat → ClassId} {d : Nat} {st : List Value} {f : pz_F} {Q : Option Value → pz_F → Prop} {v0 v1 : Value} {a : Nat} : pz_R dA d 107 49 [v0, v1] (.ref a :: st) f Q = pz_o (pz_gf f a 6 22) (fun v => pz_R dA d 107 52 [v0, v1] (v :: st) f Q) := pz_gg d107_49 rfl
theorem d107_52 : decode (pz_b 107) 52 = .ok (.bipush 6, 2) := by decide +kernel
theorem q107_52 {dA : Nat → ClassId} {d : Nat} {st : List Value} {f : pz_F} {Q : Option Value → pz_F → Prop} {v0 v1 : Value} : pz_R dA d 107 52 [v0, v1] st f Q = pz_R dA d 107 54 [v0, v1] (.int 6 :: st) f Q := pz_go (pz_so d107_52 rfl)
theorem d107_54 : decode (pz_b 107) 54 = .ok (.iaload, 1) := by decide +kernel
theorem q107_54 {dA : Nat → ClassId} {d : Nat} {st : List Value} {f : pz_F} {Q : Option Value → pz_F → Prop} {v0 v1 : Value} {i : Int32} {a : Nat} : pz_R dA d 107 54 [v0, v1] (.int i :: .ref a :: st) f Q = pz_o (pz_il (dA 0) f a i) (fun x => pz_R dA d 107 55 [v0, v1] (.int x :: st) f Q) := pz_gil d107_54
theorem d107_55 : decode (pz_b 107) 55 = .ok (.iastore, 1) := by decide +kernel
theorem q107_55 {dA : Nat → ClassId} {d : Nat} {st : List Value} {f : pz_F} {Q : Option Value → pz_F → Prop} {v0 v1 : Value} {x i : Int32} {a : Nat} : pz_R dA d 107 55 [v0, v1] (.int x :: .int i :: .ref a :: st) f Q = pz_o (pz_is (dA 0) f a i x) (fun f' => pz_R dA d 107 56 [v0, v1] st f' Q) := pz_gis d107_55
theorem d107_56 : decode (pz_b 107) 56 = .ok (.aload_n 0, 1) := by decide +kernel
theorem q107_56 {dA : Nat → ClassId} {d : Nat} {st : List Value} {f : pz_F} {Q : Option Value → pz_F → Prop} {v1 : Value} {x : Nat} : pz_R dA d 107 56 [.ref x, v1] st f Q = pz_R dA d 107 57 [.ref x, v1] (.ref x :: st) f Q := pz_go (pz_so d107_56 rfl)
theorem d107_57 : decode (pz_b 107) 57 = .ok (.getfield 35, 3) := by decide +kernel
theorem q107_57 {dA : Nat → ClassId} {d : Nat} {st : List Value} {f : pz_F} {Q : Option Value → pz_F → Prop} {v0 v1 : Value} {a : Nat} : pz_R dA d 107 57 [v0, v1] (.ref a :: st) f Q = pz_o (pz_gf f a 6 9) (fun v => pz_R dA d 107 60 [v0, v1] (v :: st) f Q) := pz_gg d107_57 rfl
theorem d107_60 : decode (pz_b 107) 60 = .ok (.iload_n 1, 1) := by decide +kernel
theorem q107_60 {dA : Nat → ClassId} {d : Nat} {st : List Value} {f : pz_F} {Q : Option Value → pz_F → Prop} {v0 : Value} {x : Int32} : pz_R dA d 107 60 [v0, .int x] st f Q = pz_R dA d 107 61 [v0, .int x] (.int x :: st) f Q := pz_go (pz_so d107_60 rfl)
theorem d107_61 : decode (pz_b 107) 61 = .ok (.aload_n 0, 1) := by decide +kernel
theorem q107_61 {dA : Nat → ClassId} {d : Nat} {st : List Value} {f : pz_F} {Q : Option Value → pz_F → Prop} {v1 : Value} {x : Nat} : pz_R dA d 107 61 [.ref x, v1] st f Q = pz_R dA d 107 62 [.ref x, v1] (.ref x :: st) f Q := pz_go (pz_so d107_61 rfl)
theorem d107_62 : decode (pz_b 107) 62 = .ok (.getfield 72, 3) := by decide +kernel
theorem q107_62 {dA : Nat → ClassId} {d : Nat} {st : List Value} {f : pz_F} {Q : Option Value → pz_F → Prop} {v0 v1 : Value} {a : Nat} : pz_R dA d 107 62 [v0, v1] (.ref a :: st) f Q = pz_o (pz_gf f a 6 22) (fun v => pz_R dA d 107 65 [v0, v1] (v :: st) f Q) := pz_gg d107_62 rfl
theorem d107_65 : decode (pz_b 107) 65 = .ok (.bipush 7, 2) := by decide +kernel
theorem q107_65 {dA : Nat → ClassId} {d : Nat} {st : List Value} {f : pz_F} {Q : Option Value → pz_F → Prop} {v0 v1 : Value} : pz_R dA d 107 65 [v0, v1] st f Q = pz_R dA d 107 67 [v0, v1] (.int 7 :: st) f Q := pz_go (pz_so d107_65 rfl)
theorem d107_67 : decode (pz_b 107) 67 = .ok (.iaload, 1) := by decide +kernel
theorem q107_67 {dA : Nat → ClassId} {d : Nat} {st : List Value} {f : pz_F} {Q : Option Value → pz_F → Prop} {v0 v1 : Value} {i : Int32} {a : Nat} : pz_R dA d 107 67 [v0, v1] (.int i :: .ref a :: st) f Q = pz_o (pz_il (dA 0) f a i) (fun x => pz_R dA d 107 68 [v0, v1] (.int x :: st) f Q) := pz_gil d107_67
theorem d107_68 : decode (pz_b 107) 68 = .ok (.iastore, 1) := by decide +kernel
theorem q107_68 {dA : Nat → ClassId} {d : Nat} {st : List Value} {f : pz_F} {Q : Option Value → pz_F → Prop} {v0 v1 : Value} {x i : Int32} {a : Nat} : pz_R dA d 107 68 [v0, v1] (.int x :: .int i :: .ref a :: st) f Q = pz_o (pz_is (dA 0) f a i x) (fun f' => pz_R dA d 107 69 [v0, v1] st f' Q) := pz_gis d107_68
theorem d107_69 : decode (pz_b 107) 69 = .ok (.aload_n 0, 1) := by decide +kernel
theorem q107_69 {dA : Nat → ClassId} {d : Nat} {st : List Value} {f : pz_F} {Q : Option Value → pz_F → Prop} {v1 : Value} {x : Nat} : pz_R dA d 107 69 [.ref x, v1] st f Q = pz_R dA d 107 70 [.ref x, v1] (.ref x :: st) f Q := pz_go (pz_so d107_69 rfl)
theorem d107_70 : decode (pz_b 107) 70 = .ok (.getfield 41, 3) := by decide +kernel
theorem q107_70 {dA : Nat → ClassId} {d : Nat} {st : List Value} {f : pz_F} {Q : Option Value → pz_F → Prop} {v0 v1 : Value} {a : Nat} : pz_R dA d 107 70 [v0, v1] (.ref a :: st) f Q = pz_o (pz_gf f a 6 11) (fun v => pz_R dA d 107 73 [v0, v1] (v :: st) f Q) := pz_gg d107_70 rfl
theorem d107_73 : decode (pz_b 107) 73 = .ok (.iload_n 1, 1) := by decide +kernel
theorem q107_73 {dA : Nat → ClassId} {d : Nat} {st : List Value} {f : pz_F} {Q : Option Value → pz_F → Prop} {v0 : Value} {x : Int32} : pz_R dA d 107 73 [v0, .int x] st f Q = pz_R dA d 107 74 [v0, .int x] (.int x :: st) f Q := pz_go (pz_so d107_73 rfl)
theorem d107_74 : decode (pz_b 107) 74 = .ok (.aload_n 0, 1) := by decide +kernel
theorem q107_74 {dA : Nat → ClassId} {d : Nat} {st : List Value} {f : pz_F} {Q : Option Value → pz_F → Prop} {v1 : Value} {x : Nat} : pz_R dA d 107 74 [.ref x, v1] st f Q = pz_R dA d 107 75 [.ref x, v1] (.ref x :: st) f Q := pz_go (pz_so d107_74 rfl)
theorem d107_75 : decode (pz_b 107) 75 = .ok (.getfield 72, 3) := by decide +kernel
theorem q107_75 {dA : Nat → ClassId} {d : Nat} {st : List Value} {f : pz_F} {Q : Option Value → pz_F → Prop} {v0 v1 : Value} {a : Nat} : pz_R dA d 107 75 [v0, v1] (.ref a :: st) f Q = pz_o (pz_gf f a 6 22) (fun v => pz_R dA d 107 78 [v0, v1] (v :: st) f Q) := pz_gg d107_75 rfl
theorem d107_78 : decode (pz_b 107) 78 = .ok (.bipush 10, 2) := by decide +kernel
theorem q107_78 {dA : Nat → ClassId} {d : Nat} {st : List Value} {f : pz_F} {Q : Option Value → pz_F → Prop} {v0 v1 : Value} : pz_R dA d 107 78 [v0, v1] st f Q = pz_R dA d 107 80 [v0, v1] (.int 10 :: st) f Q := pz_go (pz_so d107_78 rfl)
theorem d107_80 : decode (pz_b 107) 80 = .ok (.iaload, 1) := by decide +kernel
theorem q107_80 {dA : Nat → ClassId} {d : Nat} {st : List Value} {f : pz_F} {Q : Option Value → pz_F → Prop} {v0 v1 : Value} {i : Int32} {a : Nat} : pz_R dA d 107 80 [v0, v1] (.int i :: .ref a :: st) f Q = pz_o (pz_il (dA 0) f a i) (fun x => pz_R dA d 107 81 [v0, v1] (.int x :: st) f Q) := pz_gil d107_80
theorem d107_81 : decode (pz_b 107) 81 = .ok (.iastore, 1) := by decide +kernel
theorem q107_81 {dA : Nat → ClassId} {d : Nat} {st : List Value} {f : pz_F} {Q : Option Value → pz_F → Prop} {v0 v1 : Value} {x i : Int32} {a : Nat} : pz_R dA d 107 81 [v0, v1] (.int x :: .int i :: .ref a :: st) f Q = pz_o (pz_is (dA 0) f a i x) (fun f' => pz_R dA d 107 82 [v0, v1] st f' Q) := pz_gis d107_81
theorem d107_82 : decode (pz_b 107) 82 = .ok (.return_, 1) := by decide +kernel
theorem q107_82 {dA : Nat → ClassId} {d : Nat} {f : pz_F} {Q : Option Value → pz_F → Prop} {v0 v1 : Value} : pz_R dA d 107 82 [v0, v1] [] f Q = Q none f := pz_gr (pz_so d107_82 rfl)
/-! X_recovers (II)V -/
theorem e108 {dA : Nat → ClassId} {d : Nat} {f : pz_F} {Q : Option Value → pz_F → Prop} {a0 : Nat} {a1 : Int32} {a2 : Int32} : pz_C dA d 108 [.ref a0, .int a1, .int a2] f Q = pz_R dA d 108 0 [.ref a0, .int a1, .int a2, .retAddr 0, .retAddr 0, .retAddr 0] [] f Q := rfl
theorem d108_0 : decode (pz_b 108) 0 = .ok (.aload_n 0, 1) := by decide +kernel
theorem q108_0 {dA : Nat → ClassId} {d : Nat} {st : List Value} {f : pz_F} {Q : Option Value → pz_F → Prop} {v1 v2 v3 v4 v5 : Value} {x : Nat} : pz_R dA d 108 0 [.ref x, v1, v2, v3, v4, v5] st f Q = pz_R dA d 108 1 [.ref x, v1, v2, v3, v4, v5] (.ref x :: st) f Q := pz_go (pz_so d108_0 rfl)
theorem d108_1 : decode (pz_b 108) 1 = .ok (.iload_n 2, 1) := by decide +kernel
theorem q108_1 {dA : Nat → ClassId} {d : Nat} {st : List Value} {f : pz_F} {Q : Option Value → pz_F → Prop} {v0 v1 v3 v4 v5 : Value} {x : Int32} : pz_R dA d 108 1 [v0, v1, .int x, v3, v4, v5] st f Q = pz_R dA d 108 2 [v0, v1, .int x, v3, v4, v5] (.int x :: st) f Q := pz_go (pz_so d108_1 rfl)
theorem d108_2 : decode (pz_b 108) 2 = .ok (.invokevirtual 120, 3) := by decide +kernel
theorem q108_2 {dA : Nat → ClassId} {d : Nat} {st : List Value} {f : pz_F} {Q : Option Value → pz_F → Prop} {v0 v1 v2 v3 v4 v5 : Value} {c0 : Int32} {b : Nat} (hr : st.length ≤ 4) : pz_R dA (d + 1) 108 2 [v0, v1, v2, v3, v4, v5] (.int c0 :: .ref b :: st) f Q = pz_o (pz_gu f b 6) (fun _ => pz_C dA d 91 [.ref b, .int c0] f (fun r f' => pz_R dA (d + 1) 108 5 [v0, v1, v2, v3, v4, v5] (r.toList ++ st) f' Q)) := pz_gcv (As := [.int c0]) d108_2 rfl rfl rfl hr
theorem d108_5 : decode (pz_b 108) 5 = .ok (.istore_n 3, 1) := by decide +kernel
theorem q108_5 {dA : Nat → ClassId} {d : Nat} {st : List Value} {f : pz_F} {Q : Option Value → pz_F → Prop} {v0 v1 v2 v3 v4 v5 : Value} {x : Int32} : pz_R dA d 108 5 [v0, v1, v2, v3, v4, v5] (.int x :: st) f Q = pz_R dA d 108 6 [v0, v1, v2, .int x, v4, v5] st f Q := pz_go (pz_so d108_5 rfl)
theorem d108_6 : decode (pz_b 108) 6 = .ok (.aload_n 0, 1) := by decide +kernel
theorem q108_6 {dA : Nat → ClassId} {d : Nat} {st : List Value} {f : pz_F} {Q : Option Value → pz_F → Prop} {v1 v2 v3 v4 v5 : Value} {x : Nat} : pz_R dA d 108 6 [.ref x, v1, v2, v3, v4, v5] st f Q = pz_R dA d 108 7 [.ref x, v1, v2, v3, v4, v5] (.ref x :: st) f Q := pz_go (pz_so d108_6 rfl)
theorem d108_7 : decode (pz_b 108) 7 = .ok (.getfield 72, 3) := by decide +kernel
theorem q108_7 {dA : Nat → ClassId} {d : Nat} {st : List Value} {f : pz_F} {Q : Option Value → pz_F → Prop} {v0 v1 v2 v3 v4 v5 : Value} {a : Nat} : pz_R dA d 108 7 [v0, v1, v2, v3, v4, v5] (.ref a :: st) f Q = pz_o (pz_gf f a 6 22) (fun v => pz_R dA d 108 10 [v0, v1, v2, v3, v4, v5] (v :: st) f Q) := pz_gg d108_7 rfl
theorem d108_10 : decode (pz_b 108) 10 = .ok (.iconst 4, 1) := by decide +kernel
theorem q108_10 {dA : Nat → ClassId} {d : Nat} {st : List Value} {f : pz_F} {Q : Option Value → pz_F → Prop} {v0 v1 v2 v3 v4 v5 : Value} : pz_R dA d 108 10 [v0, v1, v2, v3, v4, v5] st f Q = pz_R dA d 108 11 [v0, v1, v2, v3, v4, v5] (.int 4 :: st) f Q := pz_go (pz_so d108_10 rfl)
theorem d108_11 : decode (pz_b 108) 11 = .ok (.iaload, 1) := by decide +kernel
theorem q108_11 {dA : Nat → ClassId} {d : Nat} {st : List Value} {f : pz_F} {Q : Option Value → pz_F → Prop} {v0 v1 v2 v3 v4 v5 : Value} {i : Int32} {a : Nat} : pz_R dA d 108 11 [v0, v1, v2, v3, v4, v5] (.int i :: .ref a :: st) f Q = pz_o (pz_il (dA 0) f a i) (fun x => pz_R dA d 108 12 [v0, v1, v2, v3, v4, v5] (.int x :: st) f Q) := pz_gil d108_11
theorem d108_12 : decode (pz_b 108) 12 = .ok (.iconst 1, 1) := by decide +kernel
theorem q108_12 {dA : Nat → ClassId} {d : Nat} {st : List Value} {f : pz_F} {Q : Option Value → pz_F → Prop} {v0 v1 v2 v3 v4 v5 : Value} : pz_R dA d 108 12 [v0, v1, v2, v3, v4, v5] st f Q = pz_R dA d 108 13 [v0, v1, v2, v3, v4, v5] (.int 1 :: st) f Q := pz_go (pz_so d108_12 rfl)
theorem d108_13 : decode (pz_b 108) 13 = .ok (.if_icmp .ne 39, 3) := by decide +kernel
theorem q108_13 {dA : Nat → ClassId} {d : Nat} {st : List Value} {f : pz_F} {Q : Option Value → pz_F → Prop} {v0 v1 v2 v3 v4 v5 : Value} {x y : Int32} : pz_R dA d 108 13 [v0, v1, v2, v3, v4, v5] (.int y :: .int x :: st) f Q = (if x = y then pz_R dA d 108 16 [v0, v1, v2, v3, v4, v5] st f Q else pz_R dA d 108 52 [v0, v1, v2, v3, v4, v5] st f Q) := pz_gjn .ne d108_13 rfl
theorem d108_16 : decode (pz_b 108) 16 = .ok (.aload_n 0, 1) := by decide +kernel
theorem q108_16 {dA : Nat → ClassId} {d : Nat} {st : List Value} {f : pz_F} {Q : Option Value → pz_F → Prop} {v1 v2 v3 v4 v5 : Value} {x : Nat} : pz_R dA d 108 16 [.ref x, v1, v2, v3, v4, v5] st f Q = pz_R dA d 108 17 [.ref x, v1, v2, v3, v4, v5] (.ref x :: st) f Q := pz_go (pz_so d108_16 rfl)
theorem d108_17 : decode (pz_b 108) 17 = .ok (.getfield 72, 3) := by decide +kernel
theorem q108_17 {dA : Nat → ClassId} {d : Nat} {st : List Value} {f : pz_F} {Q : Option Value → pz_F → Prop} {v0 v1 v2 v3 v4 v5 : Value} {a : Nat} : pz_R dA d 108 17 [v0, v1, v2, v3, v4, v5] (.ref a :: st) f Q = pz_o (pz_gf f a 6 22) (fun v => pz_R dA d 108 20 [v0, v1, v2, v3, v4, v5] (v :: st) f Q) := pz_gg d108_17 rfl
theorem d108_20 : decode (pz_b 108) 20 = .ok (.bipush 6, 2) := by decide +kernel
theorem q108_20 {dA : Nat → ClassId} {d : Nat} {st : List Value} {f : pz_F} {Q : Option Value → pz_F → Prop} {v0 v1 v2 v3 v4 v5 : Value} : pz_R dA d 108 20 [v0, v1, v2, v3, v4, v5] st f Q = pz_R dA d 108 22 [v0, v1, v2, v3, v4, v5] (.int 6 :: st) f Q := pz_go (pz_so d108_20 rfl)
theorem d108_22 : decode (pz_b 108) 22 = .ok (.iaload, 1) := by decide +kernel
theorem q108_22 {dA : Nat → ClassId} {d : Nat} {st : List Value} {f : pz_F} {Q : Option Value → pz_F → Prop} {v0 v1 v2 v3 v4 v5 : Value} {i : Int32} {a : Nat} : pz_R dA d 108 22 [v0, v1, v2, v3, v4, v5] (.int i :: .ref a :: st) f Q = pz_o (pz_il (dA 0) f a i) (fun x => pz_R dA d 108 23 [v0, v1, v2, v3, v4, v5] (.int x :: st) f Q) := pz_gil d108_22
theorem d108_23 : decode (pz_b 108) 23 = .ok (.aload_n 0, 1) := by decide +kernel
theorem q108_23 {dA : Nat → ClassId} {d : Nat} {st : List Value} {f : pz_F} {Q : Option Value → pz_F → Prop} {v1 v2 v3 v4 v5 : Value} {x : Nat} : pz_R dA d 108 23 [.ref x, v1, v2, v3, v4, v5] st f Q = pz_R dA d 108 24 [.ref x, v1, v2, v3, v4, v5] (.ref x :: st) f Q := pz_go (pz_so d108_23 rfl)
theorem d108_24 : decode (pz_b 108) 24 = .ok (.getfield 32, 3) := by decide +kernel
theorem q108_24 {dA : Nat → ClassId} {d : Nat} {st : List Value} {f : pz_F} {Q : Option Value → pz_F → Prop} {v0 v1 v2 v3 v4 v5 : Value} {a : Nat} : pz_R dA d 108 24 [v0, v1, v2, v3, v4, v5] (.ref a :: st) f Q = pz_o (pz_gf f a 6 8) (fun v => pz_R dA d 108 27 [v0, v1, v2, v3, v4, v5] (v :: st) f Q) := pz_gg d108_24 rfl
theorem d108_27 : decode (pz_b 108) 27 = .ok (.iload_n 2, 1) := by decide +kernel
theorem q108_27 {dA : Nat → ClassId} {d : Nat} {st : List Value} {f : pz_F} {Q : Option Value → pz_F → Prop} {v0 v1 v3 v4 v5 : Value} {x : Int32} : pz_R dA d 108 27 [v0, v1, .int x, v3, v4, v5] st f Q = pz_R dA d 108 28 [v0, v1, .int x, v3, v4, v5] (.int x :: st) f Q := pz_go (pz_so d108_27 rfl)
theorem d108_28 : decode (pz_b 108) 28 = .ok (.iaload, 1) := by decide +kernel
theorem q108_28 {dA : Nat → ClassId} {d : Nat} {st : List Value} {f : pz_F} {Q : Option Value → pz_F → Prop} {v0 v1 v2 v3 v4 v5 : Value} {i : Int32} {a : Nat} : pz_R dA d 108 28 [v0, v1, v2, v3, v4, v5] (.int i :: .ref a :: st) f Q = pz_o (pz_il (dA 0) f a i) (fun x => pz_R dA d 108 29 [v0, v1, v2, v3, v4, v5] (.int x :: st) f Q) := pz_gil d108_28
theorem d108_29 : decode (pz_b 108) 29 = .ok (.if_icmp .ne 23, 3) := by decide +kernel
theorem q108_29 {dA : Nat → ClassId} {d : Nat} {st : List Value} {f : pz_F} {Q : Option Value → pz_F → Prop} {v0 v1 v2 v3 v4 v5 : Value} {x y : Int32} : pz_R dA d 108 29 [v0, v1, v2, v3, v4, v5] (.int y :: .int x :: st) f Q = (if x = y then pz_R dA d 108 32 [v0, v1, v2, v3, v4, v5] st f Q else pz_R dA d 108 52 [v0, v1, v2, v3, v4, v5] st f Q) := pz_gjn .ne d108_29 rfl
theorem d108_32 : decode (pz_b 108) 32 = .ok (.aload_n 0, 1) := by decide +kernel
theorem q108_32 {dA : Nat → ClassId} {d : Nat} {st : List Value} {f : pz_F} {Q : Option Value → pz_F → Prop} {v1 v2 v3 v4 v5 : Value} {x : Nat} : pz_R dA d 108 32 [.ref x, v1, v2, v3, v4, v5] st f Q = pz_R dA d 108 33 [.ref x, v1, v2, v3, v4, v5] (.ref x :: st) f Q := pz_go (pz_so d108_32 rfl)
theorem d108_33 : decode (pz_b 108) 33 = .ok (.getfield 72, 3) := by decide +kernel
theorem q108_33 {dA : Nat → ClassId} {d : Nat} {st : List Value} {f : pz_F} {Q : Option Value → pz_F → Prop} {v0 v1 v2 v3 v4 v5 : Value} {a : Nat} : pz_R dA d 108 33 [v0, v1, v2, v3, v4, v5] (.ref a :: st) f Q = pz_o (pz_gf f a 6 22) (fun v => pz_R dA d 108 36 [v0, v1, v2, v3, v4, v5] (v :: st) f Q) := pz_gg d108_33 rfl
theorem d108_36 : decode (pz_b 108) 36 = .ok (.bipush 8, 2) := by decide +kernel
theorem q108_36 {dA : Nat → ClassId} {d : Nat} {st : List Value} {f : pz_F} {Q : Option Value → pz_F → Prop} {v0 v1 v2 v3 v4 v5 : Value} : pz_R dA d 108 36 [v0, v1, v2, v3, v4, v5] st f Q = pz_R dA d 108 38 [v0, v1, v2, v3, v4, v5] (.int 8 :: st) f Q := pz_go (pz_so d108_36 rfl)
theorem d108_38 : decode (pz_b 108) 38 = .ok (.iaload, 1) := by decide +kernel
theorem q108_38 {dA : Nat → ClassId} {d : Nat} {st : List Value} {f : pz_F} {Q : Option Value → pz_F → Prop} {v0 v1 v2 v3 v4 v5 : Value} {i : Int32} {a : Nat} : pz_R dA d 108 38 [v0, v1, v2, v3, v4, v5] (.int i :: .ref a :: st) f Q = pz_o (pz_il (dA 0) f a i) (fun x => pz_R dA d 108 39 [v0, v1, v2, v3, v4, v5] (.int x :: st) f Q) := pz_gil d108_38
theorem d108_39 : decode (pz_b 108) 39 = .ok (.aload_n 0, 1) := by decide +kernel
theorem q108_39 {dA : Nat → ClassId} {d : Nat} {st : List Value} {f : pz_F} {Q : Option Value → pz_F → Prop} {v1 v2 v3 v4 v5 : Value} {x : Nat} : pz_R dA d 108 39 [.ref x, v1, v2, v3, v4, v5] st f Q = pz_R dA d 108 40 [.ref x, v1, v2, v3, v4, v5] (.ref x :: st) f Q := pz_go (pz_so d108_39 rfl)
theorem d108_40 : decode (pz_b 108) 40 = .ok (.getfield 44, 3) := by decide +kernel
theorem q108_40 {dA : Nat → ClassId} {d : Nat} {st : List Value} {f : pz_F} {Q : Option Value → pz_F → Prop} {v0 v1 v2 v3 v4 v5 : Value} {a : Nat} : pz_R dA d 108 40 [v0, v1, v2, v3, v4, v5] (.ref a :: st) f Q = pz_o (pz_gf f a 6 12) (fun v => pz_R dA d 108 43 [v0, v1, v2, v3, v4, v5] (v :: st) f Q) := pz_gg d108_40 rfl
theorem d108_43 : decode (pz_b 108) 43 = .ok (.iload_n 2, 1) := by decide +kernel
theorem q108_43 {dA : Nat → ClassId} {d : Nat} {st : List Value} {f : pz_F} {Q : Option Value → pz_F → Prop} {v0 v1 v3 v4 v5 : Value} {x : Int32} : pz_R dA d 108 43 [v0, v1, .int x, v3, v4, v5] st f Q = pz_R dA d 108 44 [v0, v1, .int x, v3, v4, v5] (.int x :: st) f Q := pz_go (pz_so d108_43 rfl)
theorem d108_44 : decode (pz_b 108) 44 = .ok (.iaload, 1) := by decide +kernel
theorem q108_44 {dA : Nat → ClassId} {d : Nat} {st : List Value} {f : pz_F} {Q : Option Value → pz_F → Prop} {v0 v1 v2 v3 v4 v5 : Value} {i : Int32} {a : Nat} : pz_R dA d 108 44 [v0, v1, v2, v3, v4, v5] (.int i :: .ref a :: st) f Q = pz_o (pz_il (dA 0) f a i) (fun x => pz_R dA d 108 45 [v0, v1, v2, v3, v4, v5] (.int x :: st) f Q) := pz_gil d108_44
theorem d108_45 : decode (pz_b 108) 45 = .ok (.if_icmp .ne 7, 3) := by decide +kernel
theorem q108_45 {dA : Nat → ClassId} {d : Nat} {st : List Value} {f : pz_F} {Q : Option Value → pz_F → Prop} {v0 v1 v2 v3 v4 v5 : Value} {x y : Int32} : pz_R dA d 108 45 [v0, v1, v2, v3, v4, v5] (.int y :: .int x :: st) f Q = (if x = y then pz_R dA d 108 48 [v0, v1, v2, v3, v4, v5] st f Q else pz_R dA d 108 52 [v0, v1, v2, v3, v4, v5] st f Q) := pz_gjn .ne d108_45 rfl
theorem d108_48 : decode (pz_b 108) 48 = .ok (.iconst 1, 1) := by decide +kernel
theorem q108_48 {dA : Nat → ClassId} {d : Nat} {st : List Value} {f : pz_F} {Q : Option Value → pz_F → Prop} {v0 v1 v2 v3 v4 v5 : Value} : pz_R dA d 108 48 [v0, v1, v2, v3, v4, v5] st f Q = pz_R dA d 108 49 [v0, v1, v2, v3, v4, v5] (.int 1 :: st) f Q := pz_go (pz_so d108_48 rfl)
theorem d108_49 : decode (pz_b 108) 49 = .ok (.goto 4, 3) := by decide +kernel
theorem q108_49 {dA : Nat → ClassId} {d : Nat} {st : List Value} {f : pz_F} {Q : Option Value → pz_F → Prop} {v0 v1 v2 v3 v4 v5 : Value} : pz_R dA d 108 49 [v0, v1, v2, v3, v4, v5] st f Q = pz_R dA d 108 53 [v0, v1, v2, v3, v4, v5] st f Q := pz_go (pz_so d108_49 rfl)
theorem d108_52 : decode (pz_b 108) 52 = .ok (.iconst 0, 1) := by decide +kernel
theorem q108_52 {dA : Nat → ClassId} {d : Nat} {st : List Value} {f : pz_F} {Q : Option Value → pz_F → Prop} {v0 v1 v2 v3 v4 v5 : Value} : pz_R dA d 108 52 [v0, v1, v2, v3, v4, v5] st f Q = pz_R dA d 108 53 [v0, v1, v2, v3, v4, v5] (.int 0 :: st) f Q := pz_go (pz_so d108_52 rfl)
theorem d108_53 : decode (pz_b 108) 53 = .ok (.istore 4, 2) := by decide +kernel
theorem q108_53 {dA : Nat → ClassId} {d : Nat} {st : List Value} {f : pz_F} {Q : Option Value → pz_F → Prop} {v0 v1 v2 v3 v4 v5 : Value} {x : Int32} : pz_R dA d 108 53 [v0, v1, v2, v3, v4, v5] (.int x :: st) f Q = pz_R dA d 108 55 [v0, v1, v2, v3, .int x, v5] st f Q := pz_go (pz_so d108_53 rfl)
theorem d108_55 : decode (pz_b 108) 55 = .ok (.iload_n 3, 1) := by decide +kernel
theorem q108_55 {dA : Nat → ClassId} {d : Nat} {st : List Value} {f : pz_F} {Q : Option Value → pz_F → Prop} {v0 v1 v2 v4 v5 : Value} {x : Int32} : pz_R dA d 108 55 [v0, v1, v2, .int x, v4, v5] st f Q = pz_R dA d 108 56 [v0, v1, v2, .int x, v4, v5] (.int x :: st) f Q := pz_go (pz_so d108_55 rfl)
theorem d108_56 : decode (pz_b 108) 56 = .ok (.ifCond .eq 9, 3) := by decide +kernel
theorem q108_56 {dA : Nat → ClassId} {d : Nat} {st : List Value} {f : pz_F} {Q : Option Value → pz_F → Prop} {v0 v1 v2 v3 v4 v5 : Value} {x : Int32} : pz_R dA d 108 56 [v0, v1, v2, v3, v4, v5] (.int x :: st) f Q = (if x = 0 then pz_R dA d 108 65 [v0, v1, v2, v3, v4, v5] st f Q else pz_R dA d 108 59 [v0, v1, v2, v3, v4, v5] st f Q) := pz_gj1 .eq d108_56 rfl
theorem d108_59 : decode (pz_b 108) 59 = .ok (.iload 4, 2) := by decide +kernel
theorem q108_59 {dA : Nat → ClassId} {d : Nat} {st : List Value} {f : pz_F} {Q : Option Value → pz_F → Prop} {v0 v1 v2 v3 v5 : Value} {x : Int32} : pz_R dA d 108 59 [v0, v1, v2, v3, .int x, v5] st f Q = pz_R dA d 108 61 [v0, v1, v2, v3, .int x, v5] (.int x :: st) f Q := pz_go (pz_so d108_59 rfl)
theorem d108_61 : decode (pz_b 108) 61 = .ok (.ifCond .ne 4, 3) := by decide +kernel
theorem q108_61 {dA : Nat → ClassId} {d : Nat} {st : List Value} {f : pz_F} {Q : Option Value → pz_F → Prop} {v0 v1 v2 v3 v4 v5 : Value} {x : Int32} : pz_R dA d 108 61 [v0, v1, v2, v3, v4, v5] (.int x :: st) f Q = (if x = 0 then pz_R dA d 108 64 [v0, v1, v2, v3, v4, v5] st f Q else pz_R dA d 108 65 [v0, v1, v2, v3, v4, v5] st f Q) := pz_gj1 .ne d108_61 rfl
theorem d108_64 : decode (pz_b 108) 64 = .ok (.return_, 1) := by decide +kernel
theorem q108_64 {dA : Nat → ClassId} {d : Nat} {f : pz_F} {Q : Option Value → pz_F → Prop} {v0 v1 v2 v3 v4 v5 : Value} : pz_R dA d 108 64 [v0, v1, v2, v3, v4, v5] [] f Q = Q none f := pz_gr (pz_so d108_64 rfl)
theorem d108_65 : decode (pz_b 108) 65 = .ok (.aload_n 0, 1) := by decide +kernel
theorem q108_65 {dA : Nat → ClassId} {d : Nat} {st : List Value} {f : pz_F} {Q : Option Value → pz_F → Prop} {v1 v2 v3 v4 v5 : Value} {x : Nat} : pz_R dA d 108 65 [.ref x, v1, v2, v3, v4, v5] st f Q = pz_R dA d 108 66 [.ref x, v1, v2, v3, v4, v5] (.ref x :: st) f Q := pz_go (pz_so d108_65 rfl)
theorem d108_66 : decode (pz_b 108) 66 = .ok (.getfield 35, 3) := by decide +kernel
theorem q108_66 {dA : Nat → ClassId} {d : Nat} {st : List Value} {f : pz_F} {Q : Option Value → pz_F → Prop} {v0 v1 v2 v3 v4 v5 : Value} {a : Nat} : pz_R dA d 108 66 [v0, v1, v2, v3, v4, v5] (.ref a :: st) f Q = pz_o (pz_gf f a 6 9) (fun v => pz_R dA d 108 69 [v0, v1, v2, v3, v4, v5] (v :: st) f Q) := pz_gg d108_66 rfl
theorem d108_69 : decode (pz_b 108) 69 = .ok (.iload_n 2, 1) := by decide +kernel
theorem q108_69 {dA : Nat → ClassId} {d : Nat} {st : List Value} {f : pz_F} {Q : Option Value → pz_F → Prop} {v0 v1 v3 v4 v5 : Value} {x : Int32} : pz_R dA d 108 69 [v0, v1, .int x, v3, v4, v5] st f Q = pz_R dA d 108 70 [v0, v1, .int x, v3, v4, v5] (.int x :: st) f Q := pz_go (pz_so d108_69 rfl)
theorem d108_70 : decode (pz_b 108) 70 = .ok (.iaload, 1) := by decide +kernel
theorem q108_70 {dA : Nat → ClassId} {d : Nat} {st : List Value} {f : pz_F} {Q : Option Value → pz_F → Prop} {v0 v1 v2 v3 v4 v5 : Value} {i : Int32} {a : Nat} : pz_R dA d 108 70 [v0, v1, v2, v3, v4, v5] (.int i :: .ref a :: st) f Q = pz_o (pz_il (dA 0) f a i) (fun x => pz_R dA d 108 71 [v0, v1, v2, v3, v4, v5] (.int x :: st) f Q) := pz_gil d108_70
theorem d108_71 : decode (pz_b 108) 71 = .ok (.istore 5, 2) := by decide +kernel
theorem q108_71 {dA : Nat → ClassId} {d : Nat} {st : List Value} {f : pz_F} {Q : Option Value → pz_F → Prop} {v0 v1 v2 v3 v4 v5 : Value} {x : Int32} : pz_R dA d 108 71 [v0, v1, v2, v3, v4, v5] (.int x :: st) f Q = pz_R dA d 108 73 [v0, v1, v2, v3, v4, .int x] st f Q := pz_go (pz_so d108_71 rfl)
theorem d108_73 : decode (pz_b 108) 73 = .ok (.aload_n 0, 1) := by decide +kernel
theorem q108_73 {dA : Nat → ClassId} {d : Nat} {st : List Value} {f : pz_F} {Q : Option Value → pz_F → Prop} {v1 v2 v3 v4 v5 : Value} {x : Nat} : pz_R dA d 108 73 [.ref x, v1, v2, v3, v4, v5] st f Q = pz_R dA d 108 74 [.ref x, v1, v2, v3, v4, v5] (.ref x :: st) f Q := pz_go (pz_so d108_73 rfl)
theorem d108_74 : decode (pz_b 108) 74 = .ok (.iload_n 2, 1) := by decide +kernel
theorem q108_74 {dA : Nat → ClassId} {d : Nat} {st : List Value} {f : pz_F} {Q : Option Value → pz_F → Prop} {v0 v1 v3 v4 v5 : Value} {x : Int32} : pz_R dA d 108 74 [v0, v1, .int x, v3, v4, v5] st f Q = pz_R dA d 108 75 [v0, v1, .int x, v3, v4, v5] (.int x :: st) f Q := pz_go (pz_so d108_74 rfl)
theorem d108_75 : decode (pz_b 108) 75 = .ok (.invokevirtual 124, 3) := by decide +kernel
theorem q108_75 {dA : Nat → ClassId} {d : Nat} {st : List Value} {f : pz_F} {Q : Option Value → pz_F → Prop} {v0 v1 v2 v3 v4 v5 : Value} {c0 : Int32} {b : Nat} (hr : st.length ≤ 4) : pz_R dA (d + 1) 108 75 [v0, v1, v2, v3, v4, v5] (.int c0 :: .ref b :: st) f Q = pz_o (pz_gu f b 6) (fun _ => pz_C dA d 107 [.ref b, .int c0] f (fun r f' => pz_R dA (d + 1) 108 78 [v0, v1, v2, v3, v4, v5] (r.toList ++ st) f' Q)) := pz_gcv (As := [.int c0]) d108_75 rfl rfl rfl hr
theorem d108_78 : decode (pz_b 108) 78 = .ok (.iload_n 3, 1) := by decide +kernel
theorem q108_78 {dA : Nat → ClassId} {d : Nat} {st : List Value} {f : pz_F} {Q : Option Value → pz_F → Prop} {v0 v1 v2 v4 v5 : Value} {x : Int32} : pz_R dA d 108 78 [v0, v1, v2, .int x, v4, v5] st f Q = pz_R dA d 108 79 [v0, v1, v2, .int x, v4, v5] (.int x :: st) f Q := pz_go (pz_so d108_78 rfl)
theorem d108_79 : decode (pz_b 108) 79 = .ok (.ifCond .eq 20, 3) := by decide +kernel
theorem q108_79 {dA : Nat → ClassId} {d : Nat} {st : List Value} {f : pz_F} {Q : Option Value → pz_F → Prop} {v0 v1 v2 v3 v4 v5 : Value} {x : Int32} : pz_R dA d 108 79 [v0, v1, v2, v3, v4, v5] (.int x :: st) f Q = (if x = 0 then pz_R dA d 108 99 [v0, v1, v2, v3, v4, v5] st f Q else pz_R dA d 108 82 [v0, v1, v2, v3, v4, v5] st f Q) := pz_gj1 .eq d108_79 rfl
theorem d108_82 : decode (pz_b 108) 82 = .ok (.aload_n 0, 1) := by decide +kernel
theorem q108_82 {dA : Nat → ClassId} {d : Nat} {st : List Value} {f : pz_F} {Q : Option Value → pz_F → Prop} {v1 v2 v3 v4 v5 : Value} {x : Nat} : pz_R dA d 108 82 [.ref x, v1, v2, v3, v4, v5] st f Q = pz_R dA d 108 83 [.ref x, v1, v2, v3, v4, v5] (.ref x :: st) f Q := pz_go (pz_so d108_82 rfl)
theorem d108_83 : decode (pz_b 108) 83 = .ok (.getfield 35, 3) := by decide +kernel
theorem q108_83 {dA : Nat → ClassId} {d : Nat} {st : List Value} {f : pz_F} {Q : Option Value → pz_F → Prop} {v0 v1 v2 v3 v4 v5 : Value} {a : Nat} : pz_R dA d 108 83 [v0, v1, v2, v3, v4, v5] (.ref a :: st) f Q = pz_o (pz_gf f a 6 9) (fun v => pz_R dA d 108 86 [v0, v1, v2, v3, v4, v5] (v :: st) f Q) := pz_gg d108_83 rfl
theorem d108_86 : decode (pz_b 108) 86 = .ok (.iload_n 2, 1) := by decide +kernel
theorem q108_86 {dA : Nat → ClassId} {d : Nat} {st : List Value} {f : pz_F} {Q : Option Value → pz_F → Prop} {v0 v1 v3 v4 v5 : Value} {x : Int32} : pz_R dA d 108 86 [v0, v1, .int x, v3, v4, v5] st f Q = pz_R dA d 108 87 [v0, v1, .int x, v3, v4, v5] (.int x :: st) f Q := pz_go (pz_so d108_86 rfl)
theorem d108_87 : decode (pz_b 108) 87 = .ok (.aload_n 0, 1) := by decide +kernel
theorem q108_87 {dA : Nat → ClassId} {d : Nat} {st : List Value} {f : pz_F} {Q : Option Value → pz_F → Prop} {v1 v2 v3 v4 v5 : Value} {x : Nat} : pz_R dA d 108 87 [.ref x, v1, v2, v3, v4, v5] st f Q = pz_R dA d 108 88 [.ref x, v1, v2, v3, v4, v5] (.ref x :: st) f Q := pz_go (pz_so d108_87 rfl)
theorem d108_88 : decode (pz_b 108) 88 = .ok (.getfield 35, 3) := by decide +kernel
theorem q108_88 {dA : Nat → ClassId} {d : Nat} {st : List Value} {f : pz_F} {Q : Option Value → pz_F → Prop} {v0 v1 v2 v3 v4 v5 : Value} {a : Nat} : pz_R dA d 108 88 [v0, v1, v2, v3, v4, v5] (.ref a :: st) f Q = pz_o (pz_gf f a 6 9) (fun v => pz_R dA d 108 91 [v0, v1, v2, v3, v4, v5] (v :: st) f Q) := pz_gg d108_88 rfl
theorem d108_91 : decode (pz_b 108) 91 = .ok (.iload_n 2, 1) := by decide +kernel
theorem q108_91 {dA : Nat → ClassId} {d : Nat} {st : List Value} {f : pz_F} {Q : Option Value → pz_F → Prop} {v0 v1 v3 v4 v5 : Value} {x : Int32} : pz_R dA d 108 91 [v0, v1, .int x, v3, v4, v5] st f Q = pz_R dA d 108 92 [v0, v1, .int x, v3, v4, v5] (.int x :: st) f Q := pz_go (pz_so d108_91 rfl)
theorem d108_92 : decode (pz_b 108) 92 = .ok (.iaload, 1) := by decide +kernel
theorem q108_92 {dA : Nat → ClassId} {d : Nat} {st : List Value} {f : pz_F} {Q : Option Value → pz_F → Prop} {v0 v1 v2 v3 v4 v5 : Value} {i : Int32} {a : Nat} : pz_R dA d 108 92 [v0, v1, v2, v3, v4, v5] (.int i :: .ref a :: st) f Q = pz_o (pz_il (dA 0) f a i) (fun x => pz_R dA d 108 93 [v0, v1, v2, v3, v4, v5] (.int x :: st) f Q) := pz_gil d108_92
theorem d108_93 : decode (pz_b 108) 93 = .ok (.iload 5, 2) := by decide +kernel
theorem q108_93 {dA : Nat → ClassId} {d : Nat} {st : List Value} {f : pz_F} {Q : Option Value → pz_F → Prop} {v0 v1 v2 v3 v4 : Value} {x : Int32} : pz_R dA d 108 93 [v0, v1, v2, v3, v4, .int x] st f Q = pz_R dA d 108 95 [v0, v1, v2, v3, v4, .int x] (.int x :: st) f Q := pz_go (pz_so d108_93 rfl)
theorem d108_95 : decode (pz_b 108) 95 = .ok (.invokestatic 107, 3) := by decide +kernel
theorem q108_95 {dA : Nat → ClassId} {d : Nat} {st : List Value} {f : pz_F} {Q : Option Value → pz_F → Prop} {v0 v1 v2 v3 v4 v5 : Value} {c0 : Int32} {c1 : Int32} (hr : st.length ≤ 4) : pz_R dA (d + 1) 108 95 [v0, v1, v2, v3, v4, v5] (.int c1 :: .int c0 :: st) f Q = pz_C dA d 92 [.int c0, .int c1] f (fun r f' => pz_R dA (d + 1) 108 98 [v0, v1, v2, v3, v4, v5] (r.toList ++ st) f' Q) := pz_gcs (As := [.int c0, .int c1]) d108_95 rfl rfl rfl hr
theorem d108_98 : decode (pz_b 108) 98 = .ok (.iastore, 1) := by decide +kernel
theorem q108_98 {dA : Nat → ClassId} {d : Nat} {st : List Value} {f : pz_F} {Q : Option Value → pz_F → Prop} {v0 v1 v2 v3 v4 v5 : Value} {x i : Int32} {a : Nat} : pz_R dA d 108 98 [v0, v1, v2, v3, v4, v5] (.int x :: .int i :: .ref a :: st) f Q = pz_o (pz_is (dA 0) f a i x) (fun f' => pz_R dA d 108 99 [v0, v1, v2, v3, v4, v5] st f' Q) := pz_gis d108_98
theorem d108_99 : decode (pz_b 108) 99 = .ok (.aload_n 0, 1) := by decide +kernel
theorem q108_99 {dA : Nat → ClassId} {d : Nat} {st : List Value} {f : pz_F} {Q : Option Value → pz_F → Prop} {v1 v2 v3 v4 v5 : Value} {x : Nat} : pz_R dA d 108 99 [.ref x, v1, v2, v3, v4, v5] st f Q = pz_R dA d 108 100 [.ref x, v1, v2, v3, v4, v5] (.ref x :: st) f Q := pz_go (pz_so d108_99 rfl)
theorem d108_100 : decode (pz_b 108) 100 = .ok (.getfield 26, 3) := by decide +kernel
theorem q108_100 {dA : Nat → ClassId} {d : Nat} {st : List Value} {f : pz_F} {Q : Option Value → pz_F → Prop} {v0 v1 v2 v3 v4 v5 : Value} {a : Nat} : pz_R dA d 108 100 [v0, v1, v2, v3, v4, v5] (.ref a :: st) f Q = pz_o (pz_gf f a 6 6) (fun v => pz_R dA d 108 103 [v0, v1, v2, v3, v4, v5] (v :: st) f Q) := pz_gg d108_100 rfl
theorem d108_103 : decode (pz_b 108) 103 = .ok (.iload_n 1, 1) := by decide +kernel
theorem q108_103 {dA : Nat → ClassId} {d : Nat} {st : List Value} {f : pz_F} {Q : Option Value → pz_F → Prop} {v0 v2 v3 v4 v5 : Value} {x : Int32} : pz_R dA d 108 103 [v0, .int x, v2, v3, v4, v5] st f Q = pz_R dA d 108 104 [v0, .int x, v2, v3, v4, v5] (.int x :: st) f Q := pz_go (pz_so d108_103 rfl)
theorem d108_104 : decode (pz_b 108) 104 = .ok (.dup2, 1) := by decide +kernel
theorem q108_104 {dA : Nat → ClassId} {d : Nat} {st : List Value} {f : pz_F} {Q : Option Value → pz_F → Prop} {v0 v1 v2 v3 v4 v5 : Value} {x : Int32} {a : Nat} : pz_R dA d 108 104 [v0, v1, v2, v3, v4, v5] (.int x :: .ref a :: st) f Q = pz_R dA d 108 105 [v0, v1, v2, v3, v4, v5] (.int x :: .ref a :: .int x :: .ref a :: st) f Q := pz_go (pz_so d108_104 rfl)
theorem d108_105 : decode (pz_b 108) 105 = .ok (.iaload, 1) := by decide +kernel
theorem q108_105 {dA : Nat → ClassId} {d : Nat} {st : List Value} {f : pz_F} {Q : Option Value → pz_F → Prop} {v0 v1 v2 v3 v4 v5 : Value} {i : Int32} {a : Nat} : pz_R dA d 108 105 [v0, v1, v2, v3, v4, v5] (.int i :: .ref a :: st) f Q = pz_o (pz_il (dA 0) f a i) (fun x => pz_R dA d 108 106 [v0, v1, v2, v3, v4, v5] (.int x :: st) f Q) := pz_gil d108_105
theorem d108_106 : decode (pz_b 108) 106 = .ok (.iconst 1, 1) := by decide +kernel
theorem q108_106 {dA : Nat → ClassId} {d : Nat} {st : List Value} {f : pz_F} {Q : Option Value → pz_F → Prop} {v0 v1 v2 v3 v4 v5 : Value} : pz_R dA d 108 106 [v0, v1, v2, v3, v4, v5] st f Q = pz_R dA d 108 107 [v0, v1, v2, v3, v4, v5] (.int 1 :: st) f Q := pz_go (pz_so d108_106 rfl)
theorem d108_107 : decode (pz_b 108) 107 = .ok (.aload_n 0, 1) := by decide +kernel
theorem q108_107 {dA : Nat → ClassId} {d : Nat} {st : List Value} {f : pz_F} {Q : Option Value → pz_F → Prop} {v1 v2 v3 v4 v5 : Value} {x : Nat} : pz_R dA d 108 107 [.ref x, v1, v2, v3, v4, v5] st f Q = pz_R dA d 108 108 [.ref x, v1, v2, v3, v4, v5] (.ref x :: st) f Q := pz_go (pz_so d108_107 rfl)
theorem d108_108 : decode (pz_b 108) 108 = .ok (.getfield 72, 3) := by decide +kernel
theorem q108_108 {dA : Nat → ClassId} {d : Nat} {st : List Value} {f : pz_F} {Q : Option Value → pz_F → Prop} {v0 v1 v2 v3 v4 v5 : Value} {a : Nat} : pz_R dA d 108 108 [v0, v1, v2, v3, v4, v5] (.ref a :: st) f Q = pz_o (pz_gf f a 6 22) (fun v => pz_R dA d 108 111 [v0, v1, v2, v3, v4, v5] (v :: st) f Q) := pz_gg d108_108 rfl
theorem d108_111 : decode (pz_b 108) 111 = .ok (.iconst 3, 1) := by decide +kernel
theorem q108_111 {dA : Nat → ClassId} {d : Nat} {st : List Value} {f : pz_F} {Q : Option Value → pz_F → Prop} {v0 v1 v2 v3 v4 v5 : Value} : pz_R dA d 108 111 [v0, v1, v2, v3, v4, v5] st f Q = pz_R dA d 108 112 [v0, v1, v2, v3, v4, v5] (.int 3 :: st) f Q := pz_go (pz_so d108_111 rfl)
theorem d108_112 : decode (pz_b 108) 112 = .ok (.iaload, 1) := by decide +kernel
theorem q108_112 {dA : Nat → ClassId} {d : Nat} {st : List Value} {f : pz_F} {Q : Option Value → pz_F → Prop} {v0 v1 v2 v3 v4 v5 : Value} {i : Int32} {a : Nat} : pz_R dA d 108 112 [v0, v1, v2, v3, v4, v5] (.int i :: .ref a :: st) f Q = pz_o (pz_il (dA 0) f a i) (fun x => pz_R dA d 108 113 [v0, v1, v2, v3, v4, v5] (.int x :: st) f Q) := pz_gil d108_112
theorem d108_113 : decode (pz_b 108) 113 = .ok (.ishl, 1) := by decide +kernel
theorem q108_113 {dA : Nat → ClassId} {d : Nat} {st : List Value} {f : pz_F} {Q : Option Value → pz_F → Prop} {v0 v1 v2 v3 v4 v5 : Value} {x y : Int32} : pz_R dA d 108 113 [v0, v1, v2, v3, v4, v5] (.int y :: .int x :: st) f Q = pz_R dA d 108 114 [v0, v1, v2, v3, v4, v5] (.int (x <<< (y &&& 31)) :: st) f Q := pz_go (pz_so d108_113 rfl)
theorem d108_114 : decode (pz_b 108) 114 = .ok (.ior, 1) := by decide +kernel
theorem q108_114 {dA : Nat → ClassId} {d : Nat} {st : List Value} {f : pz_F} {Q : Option Value → pz_F → Prop} {v0 v1 v2 v3 v4 v5 : Value} {x y : Int32} : pz_R dA d 108 114 [v0, v1, v2, v3, v4, v5] (.int y :: .int x :: st) f Q = pz_R dA d 108 115 [v0, v1, v2, v3, v4, v5] (.int (x ||| y) :: st) f Q := pz_go (pz_so d108_114 rfl)
theorem d108_115 : decode (pz_b 108) 115 = .ok (.iastore, 1) := by decide +kernel
theorem q108_115 {dA : Nat → ClassId} {d : Nat} {st : List Value} {f : pz_F} {Q : Option Value → pz_F → Prop} {v0 v1 v2 v3 v4 v5 : Value} {x i : Int32} {a : Nat} : pz_R dA d 108 115 [v0, v1, v2, v3, v4, v5] (.int x :: .int i :: .ref a :: st) f Q = pz_o (pz_is (dA 0) f a i x) (fun f' => pz_R dA d 108 116 [v0, v1, v2, v3, v4, v5] st f' Q) := pz_gis d108_115
theorem d108_116 : decode (pz_b 108) 116 = .ok (.aload_n 0, 1) := by decide +kernel
theorem q108_116 {dA : Nat → ClassId} {d : Nat} {st : List Value} {f : pz_F} {Q : Option Value → pz_F → Prop} {v1 v2 v3 v4 v5 : Value} {x : Nat} : pz_R dA d 108 116 [.ref x, v1, v2, v3, v4, v5] st f Q = pz_R dA d 108 117 [.ref x, v1, v2, v3, v4, v5] (.ref x :: st) f Q := pz_go (pz_so d108_116 rfl)
theorem d108_117 : decode (pz_b 108) 117 = .ok (.iload_n 1, 1) := by decide +kernel
theorem q108_117 {dA : Nat → ClassId} {d : Nat} {st : List Value} {f : pz_F} {Q : Option Value → pz_F → Prop} {v0 v2 v3 v4 v5 : Value} {x : Int32} : pz_R dA d 108 117 [v0, .int x, v2, v3, v4, v5] st f Q = pz_R dA d 108 118 [v0, .int x, v2, v3, v4, v5] (.int x :: st) f Q := pz_go (pz_so d108_117 rfl)
theorem d108_118 : decode (pz_b 108) 118 = .ok (.invokevirtual 127, 3) := by decide +kernel
theorem q108_118 {dA : Nat → ClassId} {d : Nat} {st : List Value} {f : pz_F} {Q : Option Value → pz_F → Prop} {v0 v1 v2 v3 v4 v5 : Value} {c0 : Int32} {b : Nat} (hr : st.length ≤ 4) : pz_R dA (d + 1) 108 118 [v0, v1, v2, v3, v4, v5] (.int c0 :: .ref b :: st) f Q = pz_o (pz_gu f b 6) (fun _ => pz_C dA d 106 [.ref b, .int c0] f (fun r f' => pz_R dA (d + 1) 108 121 [v0, v1, v2, v3, v4, v5] (r.toList ++ st) f' Q)) := pz_gcv (As := [.int c0]) d108_118 rfl rfl rfl hr
theorem d108_121 : decode (pz_b 108) 121 = .ok (.return_, 1) := by decide +kernel
theorem q108_121 {dA : Nat → ClassId} {d : Nat} {f : pz_F} {Q : Option Value → pz_F → Prop} {v0 v1 v2 v3 v4 v5 : Value} : pz_R dA d 108 121 [v0, v1, v2, v3, v4, v5] [] f Q = Q none f := pz_gr (pz_so d108_121 rfl)
