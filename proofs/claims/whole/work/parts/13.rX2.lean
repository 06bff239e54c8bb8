/-! X_takes (I)Z -/
theorem e109 {dA : Nat → ClassId} {d : Nat} {f : pz_F} {Q : Option Value → pz_F → Prop} {a0 : Nat} {a1 : Int32} : pz_C dA d 109 [.ref a0, .int a1] f Q = pz_R dA d 109 0 [.ref a0, .int a1] [] f Q := rfl
theorem d109_0 : decode (pz_b 109) 0 = .ok (.aload_n 0, 1) := by decide +kernel
theorem q109_0 {dA : Nat → ClassId} {d : Nat} {st : List Value} {f : pz_F} {Q : Option Value → pz_F → Prop} {v1 : Value} {x : Nat} : pz_R dA d 109 0 [.ref x, v1] st f Q = pz_R dA d 109 1 [.ref x, v1] (.ref x :: st) f Q := pz_go (pz_so d109_0 rfl)
theorem d109_1 : decode (pz_b 109) 1 = .ok (.getfield 72, 3) := by decide +kernel
theorem q109_1 {dA : Nat → ClassId} {d : Nat} {st : List Value} {f : pz_F} {Q : Option Value → pz_F → Prop} {v0 v1 : Value} {a : Nat} : pz_R dA d 109 1 [v0, v1] (.ref a :: st) f Q = pz_o (pz_gf f a 6 22) (fun v => pz_R dA d 109 4 [v0, v1] (v :: st) f Q) := pz_gg d109_1 rfl
theorem d109_4 : decode (pz_b 109) 4 = .ok (.bipush 8, 2) := by decide +kernel
theorem q109_4 {dA : Nat → ClassId} {d : Nat} {st : List Value} {f : pz_F} {Q : Option Value → pz_F → Prop} {v0 v1 : Value} : pz_R dA d 109 4 [v0, v1] st f Q = pz_R dA d 109 6 [v0, v1] (.int 8 :: st) f Q := pz_go (pz_so d109_4 rfl)
theorem d109_6 : decode (pz_b 109) 6 = .ok (.iaload, 1) := by decide +kernel
theorem q109_6 {dA : Nat → ClassId} {d : Nat} {st : List Value} {f : pz_F} {Q : Option Value → pz_F → Prop} {v0 v1 : Value} {i : Int32} {a : Nat} : pz_R dA d 109 6 [v0, v1] (.int i :: .ref a :: st) f Q = pz_o (pz_il (dA 0) f a i) (fun x => pz_R dA d 109 7 [v0, v1] (.int x :: st) f Q) := pz_gil d109_6
theorem d109_7 : decode (pz_b 109) 7 = .ok (.aload_n 0, 1) := by decide +kernel
theorem q109_7 {dA : Nat → ClassId} {d : Nat} {st : List Value} {f : pz_F} {Q : Option Value → pz_F → Prop} {v1 : Value} {x : Nat} : pz_R dA d 109 7 [.ref x, v1] st f Q = pz_R dA d 109 8 [.ref x, v1] (.ref x :: st) f Q := pz_go (pz_so d109_7 rfl)
theorem d109_8 : decode (pz_b 109) 8 = .ok (.getfield 44, 3) := by decide +kernel
theorem q109_8 {dA : Nat → ClassId} {d : Nat} {st : List Value} {f : pz_F} {Q : Option Value → pz_F → Prop} {v0 v1 : Value} {a : Nat} : pz_R dA d 109 8 [v0, v1] (.ref a :: st) f Q = pz_o (pz_gf f a 6 12) (fun v => pz_R dA d 109 11 [v0, v1] (v :: st) f Q) := pz_gg d109_8 rfl
theorem d109_11 : decode (pz_b 109) 11 = .ok (.iload_n 1, 1) := by decide +kernel
theorem q109_11 {dA : Nat → ClassId} {d : Nat} {st : List Value} {f : pz_F} {Q : Option Value → pz_F → Prop} {v0 : Value} {x : Int32} : pz_R dA d 109 11 [v0, .int x] st f Q = pz_R dA d 109 12 [v0, .int x] (.int x :: st) f Q := pz_go (pz_so d109_11 rfl)
theorem d109_12 : decode (pz_b 109) 12 = .ok (.iaload, 1) := by decide +kernel
theorem q109_12 {dA : Nat → ClassId} {d : Nat} {st : List Value} {f : pz_F} {Q : Option Value → pz_F → Prop} {v0 v1 : Value} {i : Int32} {a : Nat} : pz_R dA d 109 12 [v0, v1] (.int i :: .ref a :: st) f Q = pz_o (pz_il (dA 0) f a i) (fun x => pz_R dA d 109 13 [v0, v1] (.int x :: st) f Q) := pz_gil d109_12
theorem d109_13 : decode (pz_b 109) 13 = .ok (.if_icmp .ge 5, 3) := by decide +kernel
theorem q109_13 {dA : Nat → ClassId} {d : Nat} {st : List Value} {f : pz_F} {Q : Option Value → pz_F → Prop} {v0 v1 : Value} {x y : Int32} : pz_R dA d 109 13 [v0, v1] (.int y :: .int x :: st) f Q = (if y ≤ x then pz_R dA d 109 18 [v0, v1] st f Q else pz_R dA d 109 16 [v0, v1] st f Q) := pz_gjn .ge d109_13 rfl
theorem d109_16 : decode (pz_b 109) 16 = .ok (.iconst 0, 1) := by decide +kernel
theorem q109_16 {dA : Nat → ClassId} {d : Nat} {st : List Value} {f : pz_F} {Q : Option Value → pz_F → Prop} {v0 v1 : Value} : pz_R dA d 109 16 [v0, v1] st f Q = pz_R dA d 109 17 [v0, v1] (.int 0 :: st) f Q := pz_go (pz_so d109_16 rfl)
theorem d109_17 : decode (pz_b 109) 17 = .ok (.ireturn, 1) := by decide +kernel
theorem q109_17z {dA : Nat → ClassId} {d : Nat} {f : pz_F} {Q : Option Value → pz_F → Prop} {v0 v1 : Value} : pz_R dA d 109 17 [v0, v1] [.int 0] f Q = Q (some (.int 0)) f := pz_gri d109_17 rfl rfl
theorem q109_17o {dA : Nat → ClassId} {d : Nat} {f : pz_F} {Q : Option Value → pz_F → Prop} {v0 v1 : Value} : pz_R dA d 109 17 [v0, v1] [.int 1] f Q = Q (some (.int 1)) f := pz_gri d109_17 rfl rfl
theorem d109_18 : decode (pz_b 109) 18 = .ok (.aload_n 0, 1) := by decide +kernel
theorem q109_18 {dA : Nat → ClassId} {d : Nat} {st : List Value} {f : pz_F} {Q : Option Value → pz_F → Prop} {v1 : Value} {x : Nat} : pz_R dA d 109 18 [.ref x, v1] st f Q = pz_R dA d 109 19 [.ref x, v1] (.ref x :: st) f Q := pz_go (pz_so d109_18 rfl)
theorem d109_19 : decode (pz_b 109) 19 = .ok (.getfield 72, 3) := by decide +kernel
theorem q109_19 {dA : Nat → ClassId} {d : Nat} {st : List Value} {f : pz_F} {Q : Option Value → pz_F → Prop} {v0 v1 : Value} {a : Nat} : pz_R dA d 109 19 [v0, v1] (.ref a :: st) f Q = pz_o (pz_gf f a 6 22) (fun v => pz_R dA d 109 22 [v0, v1] (v :: st) f Q) := pz_gg d109_19 rfl
theorem d109_22 : decode (pz_b 109) 22 = .ok (.iconst 4, 1) := by decide +kernel
theorem q109_22 {dA : Nat → ClassId} {d : Nat} {st : List Value} {f : pz_F} {Q : Option Value → pz_F → Prop} {v0 v1 : Value} : pz_R dA d 109 22 [v0, v1] st f Q = pz_R dA d 109 23 [v0, v1] (.int 4 :: st) f Q := pz_go (pz_so d109_22 rfl)
theorem d109_23 : decode (pz_b 109) 23 = .ok (.iaload, 1) := by decide +kernel
theorem q109_23 {dA : Nat → ClassId} {d : Nat} {st : List Value} {f : pz_F} {Q : Option Value → pz_F → Prop} {v0 v1 : Value} {i : Int32} {a : Nat} : pz_R dA d 109 23 [v0, v1] (.int i :: .ref a :: st) f Q = pz_o (pz_il (dA 0) f a i) (fun x => pz_R dA d 109 24 [v0, v1] (.int x :: st) f Q) := pz_gil d109_23
theorem d109_24 : decode (pz_b 109) 24 = .ok (.ifCond .ne 18, 3) := by decide +kernel
theorem q109_24 {dA : Nat → ClassId} {d : Nat} {st : List Value} {f : pz_F} {Q : Option Value → pz_F → Prop} {v0 v1 : Value} {x : Int32} : pz_R dA d 109 24 [v0, v1] (.int x :: st) f Q = (if x = 0 then pz_R dA d 109 27 [v0, v1] st f Q else pz_R dA d 109 42 [v0, v1] st f Q) := pz_gj1 .ne d109_24 rfl
theorem d109_27 : decode (pz_b 109) 27 = .ok (.aload_n 0, 1) := by decide +kernel
theorem q109_27 {dA : Nat → ClassId} {d : Nat} {st : List Value} {f : pz_F} {Q : Option Value → pz_F → Prop} {v1 : Value} {x : Nat} : pz_R dA d 109 27 [.ref x, v1] st f Q = pz_R dA d 109 28 [.ref x, v1] (.ref x :: st) f Q := pz_go (pz_so d109_27 rfl)
theorem d109_28 : decode (pz_b 109) 28 = .ok (.getfield 29, 3) := by decide +kernel
theorem q109_28 {dA : Nat → ClassId} {d : Nat} {st : List Value} {f : pz_F} {Q : Option Value → pz_F → Prop} {v0 v1 : Value} {a : Nat} : pz_R dA d 109 28 [v0, v1] (.ref a :: st) f Q = pz_o (pz_gf f a 6 7) (fun v => pz_R dA d 109 31 [v0, v1] (v :: st) f Q) := pz_gg d109_28 rfl
theorem d109_31 : decode (pz_b 109) 31 = .ok (.iload_n 1, 1) := by decide +kernel
theorem q109_31 {dA : Nat → ClassId} {d : Nat} {st : List Value} {f : pz_F} {Q : Option Value → pz_F → Prop} {v0 : Value} {x : Int32} : pz_R dA d 109 31 [v0, .int x] st f Q = pz_R dA d 109 32 [v0, .int x] (.int x :: st) f Q := pz_go (pz_so d109_31 rfl)
theorem d109_32 : decode (pz_b 109) 32 = .ok (.iaload, 1) := by decide +kernel
theorem q109_32 {dA : Nat → ClassId} {d : Nat} {st : List Value} {f : pz_F} {Q : Option Value → pz_F → Prop} {v0 v1 : Value} {i : Int32} {a : Nat} : pz_R dA d 109 32 [v0, v1] (.int i :: .ref a :: st) f Q = pz_o (pz_il (dA 0) f a i) (fun x => pz_R dA d 109 33 [v0, v1] (.int x :: st) f Q) := pz_gil d109_32
theorem d109_33 : decode (pz_b 109) 33 = .ok (.ifCond .ne 7, 3) := by decide +kernel
theorem q109_33 {dA : Nat → ClassId} {d : Nat} {st : List Value} {f : pz_F} {Q : Option Value → pz_F → Prop} {v0 v1 : Value} {x : Int32} : pz_R dA d 109 33 [v0, v1] (.int x :: st) f Q = (if x = 0 then pz_R dA d 109 36 [v0, v1] st f Q else pz_R dA d 109 40 [v0, v1] st f Q) := pz_gj1 .ne d109_33 rfl
theorem d109_36 : decode (pz_b 109) 36 = .ok (.iconst 1, 1) := by decide +kernel
theorem q109_36 {dA : Nat → ClassId} {d : Nat} {st : List Value} {f : pz_F} {Q : Option Value → pz_F → Prop} {v0 v1 : Value} : pz_R dA d 109 36 [v0, v1] st f Q = pz_R dA d 109 37 [v0, v1] (.int 1 :: st) f Q := pz_go (pz_so d109_36 rfl)
theorem d109_37 : decode (pz_b 109) 37 = .ok (.goto 4, 3) := by decide +kernel
theorem q109_37 {dA : Nat → ClassId} {d : Nat} {st : List Value} {f : pz_F} {Q : Option Value → pz_F → Prop} {v0 v1 : Value} : pz_R dA d 109 37 [v0, v1] st f Q = pz_R dA d 109 41 [v0, v1] st f Q := pz_go (pz_so d109_37 rfl)
theorem d109_40 : decode (pz_b 109) 40 = .ok (.iconst 0, 1) := by decide +kernel
theorem q109_40 {dA : Nat → ClassId} {d : Nat} {st : List Value} {f : pz_F} {Q : Option Value → pz_F → Prop} {v0 v1 : Value} : pz_R dA d 109 40 [v0, v1] st f Q = pz_R dA d 109 41 [v0, v1] (.int 0 :: st) f Q := pz_go (pz_so d109_40 rfl)
theorem d109_41 : decode (pz_b 109) 41 = .ok (.ireturn, 1) := by decide +kernel
theorem q109_41z {dA : Nat → ClassId} {d : Nat} {f : pz_F} {Q : Option Value → pz_F → Prop} {v0 v1 : Value} : pz_R dA d 109 41 [v0, v1] [.int 0] f Q = Q (some (.int 0)) f := pz_gri d109_41 rfl rfl
theorem q109_41o {dA : Nat → ClassId} {d : Nat} {f : pz_F} {Q : Option Value → pz_F → Prop} {v0 v1 : Value} : pz_R dA d 109 41 [v0, v1] [.int 1] f Q = Q (some (.int 1)) f := pz_gri d109_41 rfl rfl
theorem d109_42 : decode (pz_b 109) 42 = .ok (.aload_n 0, 1) := by decide +kernel
theorem q109_42 {dA : Nat → ClassId} {d : Nat} {st : List Value} {f : pz_F} {Q : Option Value → pz_F → Prop} {v1 : Value} {x : Nat} : pz_R dA d 109 42 [.ref x, v1] st f Q = pz_R dA d 109 43 [.ref x, v1] (.ref x :: st) f Q := pz_go (pz_so d109_42 rfl)
theorem d109_43 : decode (pz_b 109) 43 = .ok (.getfield 72, 3) := by decide +kernel
theorem q109_43 {dA : Nat → ClassId} {d : Nat} {st : List Value} {f : pz_F} {Q : Option Value → pz_F → Prop} {v0 v1 : Value} {a : Nat} : pz_R dA d 109 43 [v0, v1] (.ref a :: st) f Q = pz_o (pz_gf f a 6 22) (fun v => pz_R dA d 109 46 [v0, v1] (v :: st) f Q) := pz_gg d109_43 rfl
theorem d109_46 : decode (pz_b 109) 46 = .ok (.iconst 4, 1) := by decide +kernel
theorem q109_46 {dA : Nat → ClassId} {d : Nat} {st : List Value} {f : pz_F} {Q : Option Value → pz_F → Prop} {v0 v1 : Value} : pz_R dA d 109 46 [v0, v1] st f Q = pz_R dA d 109 47 [v0, v1] (.int 4 :: st) f Q := pz_go (pz_so d109_46 rfl)
theorem d109_47 : decode (pz_b 109) 47 = .ok (.iaload, 1) := by decide +kernel
theorem q109_47 {dA : Nat → ClassId} {d : Nat} {st : List Value} {f : pz_F} {Q : Option Value → pz_F → Prop} {v0 v1 : Value} {i : Int32} {a : Nat} : pz_R dA d 109 47 [v0, v1] (.int i :: .ref a :: st) f Q = pz_o (pz_il (dA 0) f a i) (fun x => pz_R dA d 109 48 [v0, v1] (.int x :: st) f Q) := pz_gil d109_47
theorem d109_48 : decode (pz_b 109) 48 = .ok (.iconst 2, 1) := by decide +kernel
theorem q109_48 {dA : Nat → ClassId} {d : Nat} {st : List Value} {f : pz_F} {Q : Option Value → pz_F → Prop} {v0 v1 : Value} : pz_R dA d 109 48 [v0, v1] st f Q = pz_R dA d 109 49 [v0, v1] (.int 2 :: st) f Q := pz_go (pz_so d109_48 rfl)
theorem d109_49 : decode (pz_b 109) 49 = .ok (.if_icmp .ne 17, 3) := by decide +kernel
theorem q109_49 {dA : Nat → ClassId} {d : Nat} {st : List Value} {f : pz_F} {Q : Option Value → pz_F → Prop} {v0 v1 : Value} {x y : Int32} : pz_R dA d 109 49 [v0, v1] (.int y :: .int x :: st) f Q = (if x = y then pz_R dA d 109 52 [v0, v1] st f Q else pz_R dA d 109 66 [v0, v1] st f Q) := pz_gjn .ne d109_49 rfl
theorem d109_52 : decode (pz_b 109) 52 = .ok (.aload_n 0, 1) := by decide +kernel
theorem q109_52 {dA : Nat → ClassId} {d : Nat} {st : List Value} {f : pz_F} {Q : Option Value → pz_F → Prop} {v1 : Value} {x : Nat} : pz_R dA d 109 52 [.ref x, v1] st f Q = pz_R dA d 109 53 [.ref x, v1] (.ref x :: st) f Q := pz_go (pz_so d109_52 rfl)
theorem d109_53 : decode (pz_b 109) 53 = .ok (.iload_n 1, 1) := by decide +kernel
theorem q109_53 {dA : Nat → ClassId} {d : Nat} {st : List Value} {f : pz_F} {Q : Option Value → pz_F → Prop} {v0 : Value} {x : Int32} : pz_R dA d 109 53 [v0, .int x] st f Q = pz_R dA d 109 54 [v0, .int x] (.int x :: st) f Q := pz_go (pz_so d109_53 rfl)
theorem d109_54 : decode (pz_b 109) 54 = .ok (.invokevirtual 120, 3) := by decide +kernel
theorem q109_54 {dA : Nat → ClassId} {d : Nat} {st : List Value} {f : pz_F} {Q : Option Value → pz_F → Prop} {v0 v1 : Value} {c0 : Int32} {b : Nat} (hr : st.length ≤ 4) : pz_R dA (d + 1) 109 54 [v0, v1] (.int c0 :: .ref b :: st) f Q = pz_o (pz_gu f b 6) (fun _ => pz_C dA d 91 [.ref b, .int c0] f (fun r f' => pz_R dA (d + 1) 109 57 [v0, v1] (r.toList ++ st) f' Q)) := pz_gcv (As := [.int c0]) d109_54 rfl rfl rfl hr
theorem d109_57 : decode (pz_b 109) 57 = .ok (.ifCond .ne 7, 3) := by decide +kernel
theorem q109_57 {dA : Nat → ClassId} {d : Nat} {st : List Value} {f : pz_F} {Q : Option Value → pz_F → Prop} {v0 v1 : Value} {x : Int32} : pz_R dA d 109 57 [v0, v1] (.int x :: st) f Q = (if x = 0 then pz_R dA d 109 60 [v0, v1] st f Q else pz_R dA d 109 64 [v0, v1] st f Q) := pz_gj1 .ne d109_57 rfl
theorem d109_60 : decode (pz_b 109) 60 = .ok (.iconst 1, 1) := by decide +kernel
theorem q109_60 {dA : Nat → ClassId} {d : Nat} {st : List Value} {f : pz_F} {Q : Option Value → pz_F → Prop} {v0 v1 : Value} : pz_R dA d 109 60 [v0, v1] st f Q = pz_R dA d 109 61 [v0, v1] (.int 1 :: st) f Q := pz_go (pz_so d109_60 rfl)
theorem d109_61 : decode (pz_b 109) 61 = .ok (.goto 4, 3) := by decide +kernel
theorem q109_61 {dA : Nat → ClassId} {d : Nat} {st : List Value} {f : pz_F} {Q : Option Value → pz_F → Prop} {v0 v1 : Value} : pz_R dA d 109 61 [v0, v1] st f Q = pz_R dA d 109 65 [v0, v1] st f Q := pz_go (pz_so d109_61 rfl)
theorem d109_64 : decode (pz_b 109) 64 = .ok (.iconst 0, 1) := by decide +kernel
theorem q109_64 {dA : Nat → ClassId} {d : Nat} {st : List Value} {f : pz_F} {Q : Option Value → pz_F → Prop} {v0 v1 : Value} : pz_R dA d 109 64 [v0, v1] st f Q = pz_R dA d 109 65 [v0, v1] (.int 0 :: st) f Q := pz_go (pz_so d109_64 rfl)
theorem d109_65 : decode (pz_b 109) 65 = .ok (.ireturn, 1) := by decide +kernel
theorem q109_65z {dA : Nat → ClassId} {d : Nat} {f : pz_F} {Q : Option Value → pz_F → Prop} {v0 v1 : Value} : pz_R dA d 109 65 [v0, v1] [.int 0] f Q = Q (some (.int 0)) f := pz_gri d109_65 rfl rfl
theorem q109_65o {dA : Nat → ClassId} {d : Nat} {f : pz_F} {Q : Option Value → pz_F → Prop} {v0 v1 : Value} : pz_R dA d 109 65 [v0, v1] [.int 1] f Q = Q (some (.int 1)) f := pz_gri d109_65 rfl rfl
theorem d109_66 : decode (pz_b 109) 66 = .ok (.aload_n 0, 1) := by decide +kernel
theorem q109_66 {dA : Nat → ClassId} {d : Nat} {st : List Value} {f : pz_F} {Q : Option Value → pz_F → Prop} {v1 : Value} {x : Nat} : pz_R dA d 109 66 [.ref x, v1] st f Q = pz_R dA d 109 67 [.ref x, v1] (.ref x :: st) f Q := pz_go (pz_so d109_66 rfl)
theorem d109_67 : decode (pz_b 109) 67 = .ok (.getfield 72, 3) := by decide +kernel
theorem q109_67 {dA : Nat → ClassId} {d : Nat} {st : List Value} {f : pz_F} {Q : Option Value → pz_F → Prop} {v0 v1 : Value} {a : Nat} : pz_R dA d 109 67 [v0, v1] (.ref a :: st) f Q = pz_o (pz_gf f a 6 22) (fun v => pz_R dA d 109 70 [v0, v1] (v :: st) f Q) := pz_gg d109_67 rfl
theorem d109_70 : decode (pz_b 109) 70 = .ok (.bipush 7, 2) := by decide +kernel
theorem q109_70 {dA : Nat → ClassId} {d : Nat} {st : List Value} {f : pz_F} {Q : Option Value → pz_F → Prop} {v0 v1 : Value} : pz_R dA d 109 70 [v0, v1] st f Q = pz_R dA d 109 72 [v0, v1] (.int 7 :: st) f Q := pz_go (pz_so d109_70 rfl)
theorem d109_72 : decode (pz_b 109) 72 = .ok (.iaload, 1) := by decide +kernel
theorem q109_72 {dA : Nat → ClassId} {d : Nat} {st : List Value} {f : pz_F} {Q : Option Value → pz_F → Prop} {v0 v1 : Value} {i : Int32} {a : Nat} : pz_R dA d 109 72 [v0, v1] (.int i :: .ref a :: st) f Q = pz_o (pz_il (dA 0) f a i) (fun x => pz_R dA d 109 73 [v0, v1] (.int x :: st) f Q) := pz_gil d109_72
theorem d109_73 : decode (pz_b 109) 73 = .ok (.aload_n 0, 1) := by decide +kernel
theorem q109_73 {dA : Nat → ClassId} {d : Nat} {st : List Value} {f : pz_F} {Q : Option Value → pz_F → Prop} {v1 : Value} {x : Nat} : pz_R dA d 109 73 [.ref x, v1] st f Q = pz_R dA d 109 74 [.ref x, v1] (.ref x :: st) f Q := pz_go (pz_so d109_73 rfl)
theorem d109_74 : decode (pz_b 109) 74 = .ok (.getfield 78, 3) := by decide +kernel
theorem q109_74 {dA : Nat → ClassId} {d : Nat} {st : List Value} {f : pz_F} {Q : Option Value → pz_F → Prop} {v0 v1 : Value} {a : Nat} : pz_R dA d 109 74 [v0, v1] (.ref a :: st) f Q = pz_o (pz_gf f a 6 0) (fun v => pz_R dA d 109 77 [v0, v1] (v :: st) f Q) := pz_gg d109_74 rfl
theorem d109_77 : decode (pz_b 109) 77 = .ok (.if_icmp .ge 5, 3) := by decide +kernel
theorem q109_77 {dA : Nat → ClassId} {d : Nat} {st : List Value} {f : pz_F} {Q : Option Value → pz_F → Prop} {v0 v1 : Value} {x y : Int32} : pz_R dA d 109 77 [v0, v1] (.int y :: .int x :: st) f Q = (if y ≤ x then pz_R dA d 109 82 [v0, v1] st f Q else pz_R dA d 109 80 [v0, v1] st f Q) := pz_gjn .ge d109_77 rfl
theorem d109_80 : decode (pz_b 109) 80 = .ok (.iconst 0, 1) := by decide +kernel
theorem q109_80 {dA : Nat → ClassId} {d : Nat} {st : List Value} {f : pz_F} {Q : Option Value → pz_F → Prop} {v0 v1 : Value} : pz_R dA d 109 80 [v0, v1] st f Q = pz_R dA d 109 81 [v0, v1] (.int 0 :: st) f Q := pz_go (pz_so d109_80 rfl)
theorem d109_81 : decode (pz_b 109) 81 = .ok (.ireturn, 1) := by decide +kernel
theorem q109_81z {dA : Nat → ClassId} {d : Nat} {f : pz_F} {Q : Option Value → pz_F → Prop} {v0 v1 : Value} : pz_R dA d 109 81 [v0, v1] [.int 0] f Q = Q (some (.int 0)) f := pz_gri d109_81 rfl rfl
theorem q109_81o {dA : Nat → ClassId} {d : Nat} {f : pz_F} {Q : Option Value → pz_F → Prop} {v0 v1 : Value} : pz_R dA d 109 81 [v0, v1] [.int 1] f Q = Q (some (.int 1)) f := pz_gri d109_81 rfl rfl
theorem d109_82 : decode (pz_b 109) 82 = .ok (.aload_n 0, 1) := by decide +kernel
theorem q109_82 {dA : Nat → ClassId} {d : Nat} {st : List Value} {f : pz_F} {Q : Option Value → pz_F → Prop} {v1 : Value} {x : Nat} : pz_R dA d 109 82 [.ref x, v1] st f Q = pz_R dA d 109 83 [.ref x, v1] (.ref x :: st) f Q := pz_go (pz_so d109_82 rfl)
theorem d109_83 : decode (pz_b 109) 83 = .ok (.getfield 72, 3) := by decide +kernel
theorem q109_83 {dA : Nat → ClassId} {d : Nat} {st : List Value} {f : pz_F} {Q : Option Value → pz_F → Prop} {v0 v1 : Value} {a : Nat} : pz_R dA d 109 83 [v0, v1] (.ref a :: st) f Q = pz_o (pz_gf f a 6 22) (fun v => pz_R dA d 109 86 [v0, v1] (v :: st) f Q) := pz_gg d109_83 rfl
theorem d109_86 : decode (pz_b 109) 86 = .ok (.bipush 8, 2) := by decide +kernel
theorem q109_86 {dA : Nat → ClassId} {d : Nat} {st : List Value} {f : pz_F} {Q : Option Value → pz_F → Prop} {v0 v1 : Value} : pz_R dA d 109 86 [v0, v1] st f Q = pz_R dA d 109 88 [v0, v1] (.int 8 :: st) f Q := pz_go (pz_so d109_86 rfl)
theorem d109_88 : decode (pz_b 109) 88 = .ok (.iaload, 1) := by decide +kernel
theorem q109_88 {dA : Nat → ClassId} {d : Nat} {st : List Value} {f : pz_F} {Q : Option Value → pz_F → Prop} {v0 v1 : Value} {i : Int32} {a : Nat} : pz_R dA d 109 88 [v0, v1] (.int i :: .ref a :: st) f Q = pz_o (pz_il (dA 0) f a i) (fun x => pz_R dA d 109 89 [v0, v1] (.int x :: st) f Q) := pz_gil d109_88
theorem d109_89 : decode (pz_b 109) 89 = .ok (.aload_n 0, 1) := by decide +kernel
theorem q109_89 {dA : Nat → ClassId} {d : Nat} {st : List Value} {f : pz_F} {Q : Option Value → pz_F → Prop} {v1 : Value} {x : Nat} : pz_R dA d 109 89 [.ref x, v1] st f Q = pz_R dA d 109 90 [.ref x, v1] (.ref x :: st) f Q := pz_go (pz_so d109_89 rfl)
theorem d109_90 : decode (pz_b 109) 90 = .ok (.getfield 44, 3) := by decide +kernel
theorem q109_90 {dA : Nat → ClassId} {d : Nat} {st : List Value} {f : pz_F} {Q : Option Value → pz_F → Prop} {v0 v1 : Value} {a : Nat} : pz_R dA d 109 90 [v0, v1] (.ref a :: st) f Q = pz_o (pz_gf f a 6 12) (fun v => pz_R dA d 109 93 [v0, v1] (v :: st) f Q) := pz_gg d109_90 rfl
theorem d109_93 : decode (pz_b 109) 93 = .ok (.iload_n 1, 1) := by decide +kernel
theorem q109_93 {dA : Nat → ClassId} {d : Nat} {st : List Value} {f : pz_F} {Q : Option Value → pz_F → Prop} {v0 : Value} {x : Int32} : pz_R dA d 109 93 [v0, .int x] st f Q = pz_R dA d 109 94 [v0, .int x] (.int x :: st) f Q := pz_go (pz_so d109_93 rfl)
theorem d109_94 : decode (pz_b 109) 94 = .ok (.iaload, 1) := by decide +kernel
theorem q109_94 {dA : Nat → ClassId} {d : Nat} {st : List Value} {f : pz_F} {Q : Option Value → pz_F → Prop} {v0 v1 : Value} {i : Int32} {a : Nat} : pz_R dA d 109 94 [v0, v1] (.int i :: .ref a :: st) f Q = pz_o (pz_il (dA 0) f a i) (fun x => pz_R dA d 109 95 [v0, v1] (.int x :: st) f Q) := pz_gil d109_94
theorem d109_95 : decode (pz_b 109) 95 = .ok (.if_icmp .le 19, 3) := by decide +kernel
theorem q109_95 {dA : Nat → ClassId} {d : Nat} {st : List Value} {f : pz_F} {Q : Option Value → pz_F → Prop} {v0 v1 : Value} {x y : Int32} : pz_R dA d 109 95 [v0, v1] (.int y :: .int x :: st) f Q = (if x ≤ y then pz_R dA d 109 114 [v0, v1] st f Q else pz_R dA d 109 98 [v0, v1] st f Q) := pz_gjn .le d109_95 rfl
theorem d109_98 : decode (pz_b 109) 98 = .ok (.aload_n 0, 1) := by decide +kernel
theorem q109_98 {dA : Nat → ClassId} {d : Nat} {st : List Value} {f : pz_F} {Q : Option Value → pz_F → Prop} {v1 : Value} {x : Nat} : pz_R dA d 109 98 [.ref x, v1] st f Q = pz_R dA d 109 99 [.ref x, v1] (.ref x :: st) f Q := pz_go (pz_so d109_98 rfl)
theorem d109_99 : decode (pz_b 109) 99 = .ok (.iload_n 1, 1) := by decide +kernel
theorem q109_99 {dA : Nat → ClassId} {d : Nat} {st : List Value} {f : pz_F} {Q : Option Value → pz_F → Prop} {v0 : Value} {x : Int32} : pz_R dA d 109 99 [v0, .int x] st f Q = pz_R dA d 109 100 [v0, .int x] (.int x :: st) f Q := pz_go (pz_so d109_99 rfl)
theorem d109_100 : decode (pz_b 109) 100 = .ok (.invokevirtual 120, 3) := by decide +kernel
theorem q109_100 {dA : Nat → ClassId} {d : Nat} {st : List Value} {f : pz_F} {Q : Option Value → pz_F → Prop} {v0 v1 : Value} {c0 : Int32} {b : Nat} (hr : st.length ≤ 4) : pz_R dA (d + 1) 109 100 [v0, v1] (.int c0 :: .ref b :: st) f Q = pz_o (pz_gu f b 6) (fun _ => pz_C dA d 91 [.ref b, .int c0] f (fun r f' => pz_R dA (d + 1) 109 103 [v0, v1] (r.toList ++ st) f' Q)) := pz_gcv (As := [.int c0]) d109_100 rfl rfl rfl hr
theorem d109_103 : decode (pz_b 109) 103 = .ok (.ifCond .ne 7, 3) := by decide +kernel
theorem q109_103 {dA : Nat → ClassId} {d : Nat} {st : List Value} {f : pz_F} {Q : Option Value → pz_F → Prop} {v0 v1 : Value} {x : Int32} : pz_R dA d 109 103 [v0, v1] (.int x :: st) f Q = (if x = 0 then pz_R dA d 109 106 [v0, v1] st f Q else pz_R dA d 109 110 [v0, v1] st f Q) := pz_gj1 .ne d109_103 rfl
theorem d109_106 : decode (pz_b 109) 106 = .ok (.iconst 1, 1) := by decide +kernel
theorem q109_106 {dA : Nat → ClassId} {d : Nat} {st : List Value} {f : pz_F} {Q : Option Value → pz_F → Prop} {v0 v1 : Value} : pz_R dA d 109 106 [v0, v1] st f Q = pz_R dA d 109 107 [v0, v1] (.int 1 :: st) f Q := pz_go (pz_so d109_106 rfl)
theorem d109_107 : decode (pz_b 109) 107 = .ok (.goto 22, 3) := by decide +kernel
theorem q109_107 {dA : Nat → ClassId} {d : Nat} {st : List Value} {f : pz_F} {Q : Option Value → pz_F → Prop} {v0 v1 : Value} : pz_R dA d 109 107 [v0, v1] st f Q = pz_R dA d 109 129 [v0, v1] st f Q := pz_go (pz_so d109_107 rfl)
theorem d109_110 : decode (pz_b 109) 110 = .ok (.iconst 0, 1) := by decide +kernel
theorem q109_110 {dA : Nat → ClassId} {d : Nat} {st : List Value} {f : pz_F} {Q : Option Value → pz_F → Prop} {v0 v1 : Value} : pz_R dA d 109 110 [v0, v1] st f Q = pz_R dA d 109 111 [v0, v1] (.int 0 :: st) f Q := pz_go (pz_so d109_110 rfl)
theorem d109_111 : decode (pz_b 109) 111 = .ok (.goto 18, 3) := by decide +kernel
theorem q109_111 {dA : Nat → ClassId} {d : Nat} {st : List Value} {f : pz_F} {Q : Option Value → pz_F → Prop} {v0 v1 : Value} : pz_R dA d 109 111 [v0, v1] st f Q = pz_R dA d 109 129 [v0, v1] st f Q := pz_go (pz_so d109_111 rfl)
theorem d109_114 : decode (pz_b 109) 114 = .ok (.aload_n 0, 1) := by decide +kernel
theorem q109_114 {dA : Nat → ClassId} {d : Nat} {st : List Value} {f : pz_F} {Q : Option Value → pz_F → Prop} {v1 : Value} {x : Nat} : pz_R dA d 109 114 [.ref x, v1] st f Q = pz_R dA d 109 115 [.ref x, v1] (.ref x :: st) f Q := pz_go (pz_so d109_114 rfl)
theorem d109_115 : decode (pz_b 109) 115 = .ok (.getfield 29, 3) := by decide +kernel
theorem q109_115 {dA : Nat → ClassId} {d : Nat} {st : List Value} {f : pz_F} {Q : Option Value → pz_F → Prop} {v0 v1 : Value} {a : Nat} : pz_R dA d 109 115 [v0, v1] (.ref a :: st) f Q = pz_o (pz_gf f a 6 7) (fun v => pz_R dA d 109 118 [v0, v1] (v :: st) f Q) := pz_gg d109_115 rfl
theorem d109_118 : decode (pz_b 109) 118 = .ok (.iload_n 1, 1) := by decide +kernel
theorem q109_118 {dA : Nat → ClassId} {d : Nat} {st : List Value} {f : pz_F} {Q : Option Value → pz_F → Prop} {v0 : Value} {x : Int32} : pz_R dA d 109 118 [v0, .int x] st f Q = pz_R dA d 109 119 [v0, .int x] (.int x :: st) f Q := pz_go (pz_so d109_118 rfl)
theorem d109_119 : decode (pz_b 109) 119 = .ok (.iaload, 1) := by decide +kernel
theorem q109_119 {dA : Nat → ClassId} {d : Nat} {st : List Value} {f : pz_F} {Q : Option Value → pz_F → Prop} {v0 v1 : Value} {i : Int32} {a : Nat} : pz_R dA d 109 119 [v0, v1] (.int i :: .ref a :: st) f Q = pz_o (pz_il (dA 0) f a i) (fun x => pz_R dA d 109 120 [v0, v1] (.int x :: st) f Q) := pz_gil d109_119
theorem d109_120 : decode (pz_b 109) 120 = .ok (.iconst 1, 1) := by decide +kernel
theorem q109_120 {dA : Nat → ClassId} {d : Nat} {st : List Value} {f : pz_F} {Q : Option Value → pz_F → Prop} {v0 v1 : Value} : pz_R dA d 109 120 [v0, v1] st f Q = pz_R dA d 109 121 [v0, v1] (.int 1 :: st) f Q := pz_go (pz_so d109_120 rfl)
theorem d109_121 : decode (pz_b 109) 121 = .ok (.if_icmp .ne 7, 3) := by decide +kernel
theorem q109_121 {dA : Nat → ClassId} {d : Nat} {st : List Value} {f : pz_F} {Q : Option Value → pz_F → Prop} {v0 v1 : Value} {x y : Int32} : pz_R dA d 109 121 [v0, v1] (.int y :: .int x :: st) f Q = (if x = y then pz_R dA d 109 124 [v0, v1] st f Q else pz_R dA d 109 128 [v0, v1] st f Q) := pz_gjn .ne d109_121 rfl
theorem d109_124 : decode (pz_b 109) 124 = .ok (.iconst 1, 1) := by decide +kernel
theorem q109_124 {dA : Nat → ClassId} {d : Nat} {st : List Value} {f : pz_F} {Q : Option Value → pz_F → Prop} {v0 v1 : Value} : pz_R dA d 109 124 [v0, v1] st f Q = pz_R dA d 109 125 [v0, v1] (.int 1 :: st) f Q := pz_go (pz_so d109_124 rfl)
theorem d109_125 : decode (pz_b 109) 125 = .ok (.goto 4, 3) := by decide +kernel
theorem q109_125 {dA : Nat → ClassId} {d : Nat} {st : List Value} {f : pz_F} {Q : Option Value → pz_F → Prop} {v0 v1 : Value} : pz_R dA d 109 125 [v0, v1] st f Q = pz_R dA d 109 129 [v0, v1] st f Q := pz_go (pz_so d109_125 rfl)
theorem d109_128 : decode (pz_b 109) 128 = .ok (.iconst 0, 1) := by decide +kernel
theorem q109_128 {dA : Nat → ClassId} {d : Nat} {st : List Value} {f : pz_F} {Q : Option Value → pz_F → Prop} {v0 v1 : Value} : pz_R dA d 109 128 [v0, v1] st f Q = pz_R dA d 109 129 [v0, v1] (.int 0 :: st) f Q := pz_go (pz_so d109_128 rfl)
theorem d109_129 : decode (pz_b 109) 129 = .ok (.ireturn, 1) := by decide +kernel
theorem q109_129z {dA : Nat → ClassId} {d : Nat} {f : pz_F} {Q : Option Value → pz_F → Prop} {v0 v1 : Value} : pz_R dA d 109 129 [v0, v1] [.int 0] f Q = Q (some (.int 0)) f := pz_gri d109_129 rfl rfl
theorem q109_129o {dA : Nat → ClassId} {d : Nat} {f : pz_F} {Q : Option Value → pz_F → Prop} {v0 v1 : Value} : pz_R dA d 109 129 [v0, v1] [.int 1] f Q = Q (some (.int 1)) f := pz_gri d109_129 rfl rfl
/-! X_told (I)V -/
theorem e110 {dA : Nat → ClassId} {d : Nat} {f : pz_F} {Q : Option Value → pz_F → Prop} {a0 : Nat} {a1 : Int32} : pz_C dA d 110 [.ref a0, .int a1] f Q = pz_R dA d 110 0 [.ref a0, .int a1, .retAddr 0] [] f Q := rfl
theorem d110_0 : decode (pz_b 110) 0 = .ok (.bipush 6, 2) := by decide +kernel
theorem q110_0 {dA : Nat → ClassId} {d : Nat} {st : List Value} {f : pz_F} {Q : Option Value → pz_F → Prop} {v0 v1 v2 : Value} : pz_R dA d 110 0 [v0, v1, v2] st f Q = pz_R dA d 110 2 [v0, v1, v2] (.int 6 :: st) f Q := pz_go (pz_so d110_0 rfl)
theorem d110_2 : decode (pz_b 110) 2 = .ok (.iload_n 1, 1) := by decide +kernel
theorem q110_2 {dA : Nat → ClassId} {d : Nat} {st : List Value} {f : pz_F} {Q : Option Value → pz_F → Prop} {v0 v2 : Value} {x : Int32} : pz_R dA d 110 2 [v0, .int x, v2] st f Q = pz_R dA d 110 3 [v0, .int x, v2] (.int x :: st) f Q := pz_go (pz_so d110_2 rfl)
theorem d110_3 : decode (pz_b 110) 3 = .ok (.imul, 1) := by decide +kernel
theorem q110_3 {dA : Nat → ClassId} {d : Nat} {st : List Value} {f : pz_F} {Q : Option Value → pz_F → Prop} {v0 v1 v2 : Value} {x y : Int32} : pz_R dA d 110 3 [v0, v1, v2] (.int y :: .int x :: st) f Q = pz_R dA d 110 4 [v0, v1, v2] (.int (x * y) :: st) f Q := pz_go (pz_so d110_3 rfl)
theorem d110_4 : decode (pz_b 110) 4 = .ok (.aload_n 0, 1) := by decide +kernel
theorem q110_4 {dA : Nat → ClassId} {d : Nat} {st : List Value} {f : pz_F} {Q : Option Value → pz_F → Prop} {v1 v2 : Value} {x : Nat} : pz_R dA d 110 4 [.ref x, v1, v2] st f Q = pz_R dA d 110 5 [.ref x, v1, v2] (.ref x :: st) f Q := pz_go (pz_so d110_4 rfl)
theorem d110_5 : decode (pz_b 110) 5 = .ok (.getfield 72, 3) := by decide +kernel
theorem q110_5 {dA : Nat → ClassId} {d : Nat} {st : List Value} {f : pz_F} {Q : Option Value → pz_F → Prop} {v0 v1 v2 : Value} {a : Nat} : pz_R dA d 110 5 [v0, v1, v2] (.ref a :: st) f Q = pz_o (pz_gf f a 6 22) (fun v => pz_R dA d 110 8 [v0, v1, v2] (v :: st) f Q) := pz_gg d110_5 rfl
theorem d110_8 : decode (pz_b 110) 8 = .ok (.iconst 3, 1) := by decide +kernel
theorem q110_8 {dA : Nat → ClassId} {d : Nat} {st : List Value} {f : pz_F} {Q : Option Value → pz_F → Prop} {v0 v1 v2 : Value} : pz_R dA d 110 8 [v0, v1, v2] st f Q = pz_R dA d 110 9 [v0, v1, v2] (.int 3 :: st) f Q := pz_go (pz_so d110_8 rfl)
theorem d110_9 : decode (pz_b 110) 9 = .ok (.iaload, 1) := by decide +kernel
theorem q110_9 {dA : Nat → ClassId} {d : Nat} {st : List Value} {f : pz_F} {Q : Option Value → pz_F → Prop} {v0 v1 v2 : Value} {i : Int32} {a : Nat} : pz_R dA d 110 9 [v0, v1, v2] (.int i :: .ref a :: st) f Q = pz_o (pz_il (dA 0) f a i) (fun x => pz_R dA d 110 10 [v0, v1, v2] (.int x :: st) f Q) := pz_gil d110_9
theorem d110_10 : decode (pz_b 110) 10 = .ok (.iadd, 1) := by decide +kernel
theorem q110_10 {dA : Nat → ClassId} {d : Nat} {st : List Value} {f : pz_F} {Q : Option Value → pz_F → Prop} {v0 v1 v2 : Value} {x y : Int32} : pz_R dA d 110 10 [v0, v1, v2] (.int y :: .int x :: st) f Q = pz_R dA d 110 11 [v0, v1, v2] (.int (x + y) :: st) f Q := pz_go (pz_so d110_10 rfl)
theorem d110_11 : decode (pz_b 110) 11 = .ok (.istore_n 2, 1) := by decide +kernel
theorem q110_11 {dA : Nat → ClassId} {d : Nat} {st : List Value} {f : pz_F} {Q : Option Value → pz_F → Prop} {v0 v1 v2 : Value} {x : Int32} : pz_R dA d 110 11 [v0, v1, v2] (.int x :: st) f Q = pz_R dA d 110 12 [v0, v1, .int x] st f Q := pz_go (pz_so d110_11 rfl)
theorem d110_12 : decode (pz_b 110) 12 = .ok (.aload_n 0, 1) := by decide +kernel
theorem q110_12 {dA : Nat → ClassId} {d : Nat} {st : List Value} {f : pz_F} {Q : Option Value → pz_F → Prop} {v1 v2 : Value} {x : Nat} : pz_R dA d 110 12 [.ref x, v1, v2] st f Q = pz_R dA d 110 13 [.ref x, v1, v2] (.ref x :: st) f Q := pz_go (pz_so d110_12 rfl)
theorem d110_13 : decode (pz_b 110) 13 = .ok (.getfield 13, 3) := by decide +kernel
theorem q110_13 {dA : Nat → ClassId} {d : Nat} {st : List Value} {f : pz_F} {Q : Option Value → pz_F → Prop} {v0 v1 v2 : Value} {a : Nat} : pz_R dA d 110 13 [v0, v1, v2] (.ref a :: st) f Q = pz_o (pz_gf f a 6 2) (fun v => pz_R dA d 110 16 [v0, v1, v2] (v :: st) f Q) := pz_gg d110_13 rfl
theorem d110_16 : decode (pz_b 110) 16 = .ok (.iload_n 1, 1) := by decide +kernel
theorem q110_16 {dA : Nat → ClassId} {d : Nat} {st : List Value} {f : pz_F} {Q : Option Value → pz_F → Prop} {v0 v2 : Value} {x : Int32} : pz_R dA d 110 16 [v0, .int x, v2] st f Q = pz_R dA d 110 17 [v0, .int x, v2] (.int x :: st) f Q := pz_go (pz_so d110_16 rfl)
theorem d110_17 : decode (pz_b 110) 17 = .ok (.iaload, 1) := by decide +kernel
theorem q110_17 {dA : Nat → ClassId} {d : Nat} {st : List Value} {f : pz_F} {Q : Option Value → pz_F → Prop} {v0 v1 v2 : Value} {i : Int32} {a : Nat} : pz_R dA d 110 17 [v0, v1, v2] (.int i :: .ref a :: st) f Q = pz_o (pz_il (dA 0) f a i) (fun x => pz_R dA d 110 18 [v0, v1, v2] (.int x :: st) f Q) := pz_gil d110_17
theorem d110_18 : decode (pz_b 110) 18 = .ok (.iconst 4, 1) := by decide +kernel
theorem q110_18 {dA : Nat → ClassId} {d : Nat} {st : List Value} {f : pz_F} {Q : Option Value → pz_F → Prop} {v0 v1 v2 : Value} : pz_R dA d 110 18 [v0, v1, v2] st f Q = pz_R dA d 110 19 [v0, v1, v2] (.int 4 :: st) f Q := pz_go (pz_so d110_18 rfl)
theorem d110_19 : decode (pz_b 110) 19 = .ok (.if_icmp .ne 20, 3) := by decide +kernel
theorem q110_19 {dA : Nat → ClassId} {d : Nat} {st : List Value} {f : pz_F} {Q : Option Value → pz_F → Prop} {v0 v1 v2 : Value} {x y : Int32} : pz_R dA d 110 19 [v0, v1, v2] (.int y :: .int x :: st) f Q = (if x = y then pz_R dA d 110 22 [v0, v1, v2] st f Q else pz_R dA d 110 39 [v0, v1, v2] st f Q) := pz_gjn .ne d110_19 rfl
theorem d110_22 : decode (pz_b 110) 22 = .ok (.aload_n 0, 1) := by decide +kernel
theorem q110_22 {dA : Nat → ClassId} {d : Nat} {st : List Value} {f : pz_F} {Q : Option Value → pz_F → Prop} {v1 v2 : Value} {x : Nat} : pz_R dA d 110 22 [.ref x, v1, v2] st f Q = pz_R dA d 110 23 [.ref x, v1, v2] (.ref x :: st) f Q := pz_go (pz_so d110_22 rfl)
theorem d110_23 : decode (pz_b 110) 23 = .ok (.getfield 72, 3) := by decide +kernel
theorem q110_23 {dA : Nat → ClassId} {d : Nat} {st : List Value} {f : pz_F} {Q : Option Value → pz_F → Prop} {v0 v1 v2 : Value} {a : Nat} : pz_R dA d 110 23 [v0, v1, v2] (.ref a :: st) f Q = pz_o (pz_gf f a 6 22) (fun v => pz_R dA d 110 26 [v0, v1, v2] (v :: st) f Q) := pz_gg d110_23 rfl
theorem d110_26 : decode (pz_b 110) 26 = .ok (.bipush 11, 2) := by decide +kernel
theorem q110_26 {dA : Nat → ClassId} {d : Nat} {st : List Value} {f : pz_F} {Q : Option Value → pz_F → Prop} {v0 v1 v2 : Value} : pz_R dA d 110 26 [v0, v1, v2] st f Q = pz_R dA d 110 28 [v0, v1, v2] (.int 11 :: st) f Q := pz_go (pz_so d110_26 rfl)
theorem d110_28 : decode (pz_b 110) 28 = .ok (.iaload, 1) := by decide +kernel
theorem q110_28 {dA : Nat → ClassId} {d : Nat} {st : List Value} {f : pz_F} {Q : Option Value → pz_F → Prop} {v0 v1 v2 : Value} {i : Int32} {a : Nat} : pz_R dA d 110 28 [v0, v1, v2] (.int i :: .ref a :: st) f Q = pz_o (pz_il (dA 0) f a i) (fun x => pz_R dA d 110 29 [v0, v1, v2] (.int x :: st) f Q) := pz_gil d110_28
theorem d110_29 : decode (pz_b 110) 29 = .ok (.aload_n 0, 1) := by decide +kernel
theorem q110_29 {dA : Nat → ClassId} {d : Nat} {st : List Value} {f : pz_F} {Q : Option Value → pz_F → Prop} {v1 v2 : Value} {x : Nat} : pz_R dA d 110 29 [.ref x, v1, v2] st f Q = pz_R dA d 110 30 [.ref x, v1, v2] (.ref x :: st) f Q := pz_go (pz_so d110_29 rfl)
theorem d110_30 : decode (pz_b 110) 30 = .ok (.getfield 20, 3) := by decide +kernel
theorem q110_30 {dA : Nat → ClassId} {d : Nat} {st : List Value} {f : pz_F} {Q : Option Value → pz_F → Prop} {v0 v1 v2 : Value} {a : Nat} : pz_R dA d 110 30 [v0, v1, v2] (.ref a :: st) f Q = pz_o (pz_gf f a 6 4) (fun v => pz_R dA d 110 33 [v0, v1, v2] (v :: st) f Q) := pz_gg d110_30 rfl
theorem d110_33 : decode (pz_b 110) 33 = .ok (.iload_n 1, 1) := by decide +kernel
theorem q110_33 {dA : Nat → ClassId} {d : Nat} {st : List Value} {f : pz_F} {Q : Option Value → pz_F → Prop} {v0 v2 : Value} {x : Int32} : pz_R dA d 110 33 [v0, .int x, v2] st f Q = pz_R dA d 110 34 [v0, .int x, v2] (.int x :: st) f Q := pz_go (pz_so d110_33 rfl)
theorem d110_34 : decode (pz_b 110) 34 = .ok (.iaload, 1) := by decide +kernel
theorem q110_34 {dA : Nat → ClassId} {d : Nat} {st : List Value} {f : pz_F} {Q : Option Value → pz_F → Prop} {v0 v1 v2 : Value} {i : Int32} {a : Nat} : pz_R dA d 110 34 [v0, v1, v2] (.int i :: .ref a :: st) f Q = pz_o (pz_il (dA 0) f a i) (fun x => pz_R dA d 110 35 [v0, v1, v2] (.int x :: st) f Q) := pz_gil d110_34
theorem d110_35 : decode (pz_b 110) 35 = .ok (.if_icmp .eq 4, 3) := by decide +kernel
theorem q110_35 {dA : Nat → ClassId} {d : Nat} {st : List Value} {f : pz_F} {Q : Option Value → pz_F → Prop} {v0 v1 v2 : Value} {x y : Int32} : pz_R dA d 110 35 [v0, v1, v2] (.int y :: .int x :: st) f Q = (if x = y then pz_R dA d 110 39 [v0, v1, v2] st f Q else pz_R dA d 110 38 [v0, v1, v2] st f Q) := pz_gjn .eq d110_35 rfl
theorem d110_38 : decode (pz_b 110) 38 = .ok (.return_, 1) := by decide +kernel
theorem q110_38 {dA : Nat → ClassId} {d : Nat} {f : pz_F} {Q : Option Value → pz_F → Prop} {v0 v1 v2 : Value} : pz_R dA d 110 38 [v0, v1, v2] [] f Q = Q none f := pz_gr (pz_so d110_38 rfl)
theorem d110_39 : decode (pz_b 110) 39 = .ok (.aload_n 0, 1) := by decide +kernel
theorem q110_39 {dA : Nat → ClassId} {d : Nat} {st : List Value} {f : pz_F} {Q : Option Value → pz_F → Prop} {v1 v2 : Value} {x : Nat} : pz_R dA d 110 39 [.ref x, v1, v2] st f Q = pz_R dA d 110 40 [.ref x, v1, v2] (.ref x :: st) f Q := pz_go (pz_so d110_39 rfl)
theorem d110_40 : decode (pz_b 110) 40 = .ok (.getfield 13, 3) := by decide +kernel
theorem q110_40 {dA : Nat → ClassId} {d : Nat} {st : List Value} {f : pz_F} {Q : Option Value → pz_F → Prop} {v0 v1 v2 : Value} {a : Nat} : pz_R dA d 110 40 [v0, v1, v2] (.ref a :: st) f Q = pz_o (pz_gf f a 6 2) (fun v => pz_R dA d 110 43 [v0, v1, v2] (v :: st) f Q) := pz_gg d110_40 rfl
theorem d110_43 : decode (pz_b 110) 43 = .ok (.iload_n 1, 1) := by decide +kernel
theorem q110_43 {dA : Nat → ClassId} {d : Nat} {st : List Value} {f : pz_F} {Q : Option Value → pz_F → Prop} {v0 v2 : Value} {x : Int32} : pz_R dA d 110 43 [v0, .int x, v2] st f Q = pz_R dA d 110 44 [v0, .int x, v2] (.int x :: st) f Q := pz_go (pz_so d110_43 rfl)
theorem d110_44 : decode (pz_b 110) 44 = .ok (.iaload, 1) := by decide +kernel
theorem q110_44 {dA : Nat → ClassId} {d : Nat} {st : List Value} {f : pz_F} {Q : Option Value → pz_F → Prop} {v0 v1 v2 : Value} {i : Int32} {a : Nat} : pz_R dA d 110 44 [v0, v1, v2] (.int i :: .ref a :: st) f Q = pz_o (pz_il (dA 0) f a i) (fun x => pz_R dA d 110 45 [v0, v1, v2] (.int x :: st) f Q) := pz_gil d110_44
theorem d110_45 : decode (pz_b 110) 45 = .ok (.iconst 4, 1) := by decide +kernel
theorem q110_45 {dA : Nat → ClassId} {d : Nat} {st : List Value} {f : pz_F} {Q : Option Value → pz_F → Prop} {v0 v1 v2 : Value} : pz_R dA d 110 45 [v0, v1, v2] st f Q = pz_R dA d 110 46 [v0, v1, v2] (.int 4 :: st) f Q := pz_go (pz_so d110_45 rfl)
theorem d110_46 : decode (pz_b 110) 46 = .ok (.if_icmp .ne 28, 3) := by decide +kernel
theorem q110_46 {dA : Nat → ClassId} {d : Nat} {st : List Value} {f : pz_F} {Q : Option Value → pz_F → Prop} {v0 v1 v2 : Value} {x y : Int32} : pz_R dA d 110 46 [v0, v1, v2] (.int y :: .int x :: st) f Q = (if x = y then pz_R dA d 110 49 [v0, v1, v2] st f Q else pz_R dA d 110 74 [v0, v1, v2] st f Q) := pz_gjn .ne d110_46 rfl
theorem d110_49 : decode (pz_b 110) 49 = .ok (.aload_n 0, 1) := by decide +kernel
theorem q110_49 {dA : Nat → ClassId} {d : Nat} {st : List Value} {f : pz_F} {Q : Option Value → pz_F → Prop} {v1 v2 : Value} {x : Nat} : pz_R dA d 110 49 [.ref x, v1, v2] st f Q = pz_R dA d 110 50 [.ref x, v1, v2] (.ref x :: st) f Q := pz_go (pz_so d110_49 rfl)
theorem d110_50 : decode (pz_b 110) 50 = .ok (.getfield 26, 3) := by decide +kernel
theorem q110_50 {dA : Nat → ClassId} {d : Nat} {st : List Value} {f : pz_F} {Q : Option Value → pz_F → Prop} {v0 v1 v2 : Value} {a : Nat} : pz_R dA d 110 50 [v0, v1, v2] (.ref a :: st) f Q = pz_o (pz_gf f a 6 6) (fun v => pz_R dA d 110 53 [v0, v1, v2] (v :: st) f Q) := pz_gg d110_50 rfl
theorem d110_53 : decode (pz_b 110) 53 = .ok (.iload_n 1, 1) := by decide +kernel
theorem q110_53 {dA : Nat → ClassId} {d : Nat} {st : List Value} {f : pz_F} {Q : Option Value → pz_F → Prop} {v0 v2 : Value} {x : Int32} : pz_R dA d 110 53 [v0, .int x, v2] st f Q = pz_R dA d 110 54 [v0, .int x, v2] (.int x :: st) f Q := pz_go (pz_so d110_53 rfl)
theorem d110_54 : decode (pz_b 110) 54 = .ok (.iaload, 1) := by decide +kernel
theorem q110_54 {dA : Nat → ClassId} {d : Nat} {st : List Value} {f : pz_F} {Q : Option Value → pz_F → Prop} {v0 v1 v2 : Value} {i : Int32} {a : Nat} : pz_R dA d 110 54 [v0, v1, v2] (.int i :: .ref a :: st) f Q = pz_o (pz_il (dA 0) f a i) (fun x => pz_R dA d 110 55 [v0, v1, v2] (.int x :: st) f Q) := pz_gil d110_54
theorem d110_55 : decode (pz_b 110) 55 = .ok (.aload_n 0, 1) := by decide +kernel
theorem q110_55 {dA : Nat → ClassId} {d : Nat} {st : List Value} {f : pz_F} {Q : Option Value → pz_F → Prop} {v1 v2 : Value} {x : Nat} : pz_R dA d 110 55 [.ref x, v1, v2] st f Q = pz_R dA d 110 56 [.ref x, v1, v2] (.ref x :: st) f Q := pz_go (pz_so d110_55 rfl)
theorem d110_56 : decode (pz_b 110) 56 = .ok (.getfield 72, 3) := by decide +kernel
theorem q110_56 {dA : Nat → ClassId} {d : Nat} {st : List Value} {f : pz_F} {Q : Option Value → pz_F → Prop} {v0 v1 v2 : Value} {a : Nat} : pz_R dA d 110 56 [v0, v1, v2] (.ref a :: st) f Q = pz_o (pz_gf f a 6 22) (fun v => pz_R dA d 110 59 [v0, v1, v2] (v :: st) f Q) := pz_gg d110_56 rfl
theorem d110_59 : decode (pz_b 110) 59 = .ok (.iconst 3, 1) := by decide +kernel
theorem q110_59 {dA : Nat → ClassId} {d : Nat} {st : List Value} {f : pz_F} {Q : Option Value → pz_F → Prop} {v0 v1 v2 : Value} : pz_R dA d 110 59 [v0, v1, v2] st f Q = pz_R dA d 110 60 [v0, v1, v2] (.int 3 :: st) f Q := pz_go (pz_so d110_59 rfl)
theorem d110_60 : decode (pz_b 110) 60 = .ok (.iaload, 1) := by decide +kernel
theorem q110_60 {dA : Nat → ClassId} {d : Nat} {st : List Value} {f : pz_F} {Q : Option Value → pz_F → Prop} {v0 v1 v2 : Value} {i : Int32} {a : Nat} : pz_R dA d 110 60 [v0, v1, v2] (.int i :: .ref a :: st) f Q = pz_o (pz_il (dA 0) f a i) (fun x => pz_R dA d 110 61 [v0, v1, v2] (.int x :: st) f Q) := pz_gil d110_60
theorem d110_61 : decode (pz_b 110) 61 = .ok (.ishr, 1) := by decide +kernel
theorem q110_61 {dA : Nat → ClassId} {d : Nat} {st : List Value} {f : pz_F} {Q : Option Value → pz_F → Prop} {v0 v1 v2 : Value} {x y : Int32} : pz_R dA d 110 61 [v0, v1, v2] (.int y :: .int x :: st) f Q = pz_R dA d 110 62 [v0, v1, v2] (.int (x >>> (y &&& 31)) :: st) f Q := pz_go (pz_so d110_61 rfl)
theorem d110_62 : decode (pz_b 110) 62 = .ok (.iconst 1, 1) := by decide +kernel
theorem q110_62 {dA : Nat → ClassId} {d : Nat} {st : List Value} {f : pz_F} {Q : Option Value → pz_F → Prop} {v0 v1 v2 : Value} : pz_R dA d 110 62 [v0, v1, v2] st f Q = pz_R dA d 110 63 [v0, v1, v2] (.int 1 :: st) f Q := pz_go (pz_so d110_62 rfl)
theorem d110_63 : decode (pz_b 110) 63 = .ok (.iand, 1) := by decide +kernel
theorem q110_63 {dA : Nat → ClassId} {d : Nat} {st : List Value} {f : pz_F} {Q : Option Value → pz_F → Prop} {v0 v1 v2 : Value} {x y : Int32} : pz_R dA d 110 63 [v0, v1, v2] (.int y :: .int x :: st) f Q = pz_R dA d 110 64 [v0, v1, v2] (.int (x &&& y) :: st) f Q := pz_go (pz_so d110_63 rfl)
theorem d110_64 : decode (pz_b 110) 64 = .ok (.ifCond .ne 10, 3) := by decide +kernel
theorem q110_64 {dA : Nat → ClassId} {d : Nat} {st : List Value} {f : pz_F} {Q : Option Value → pz_F → Prop} {v0 v1 v2 : Value} {x : Int32} : pz_R dA d 110 64 [v0, v1, v2] (.int x :: st) f Q = (if x = 0 then pz_R dA d 110 67 [v0, v1, v2] st f Q else pz_R dA d 110 74 [v0, v1, v2] st f Q) := pz_gj1 .ne d110_64 rfl
theorem d110_67 : decode (pz_b 110) 67 = .ok (.aload_n 0, 1) := by decide +kernel
theorem q110_67 {dA : Nat → ClassId} {d : Nat} {st : List Value} {f : pz_F} {Q : Option Value → pz_F → Prop} {v1 v2 : Value} {x : Nat} : pz_R dA d 110 67 [.ref x, v1, v2] st f Q = pz_R dA d 110 68 [.ref x, v1, v2] (.ref x :: st) f Q := pz_go (pz_so d110_67 rfl)
theorem d110_68 : decode (pz_b 110) 68 = .ok (.iload_n 1, 1) := by decide +kernel
theorem q110_68 {dA : Nat → ClassId} {d : Nat} {st : List Value} {f : pz_F} {Q : Option Value → pz_F → Prop} {v0 v2 : Value} {x : Int32} : pz_R dA d 110 68 [v0, .int x, v2] st f Q = pz_R dA d 110 69 [v0, .int x, v2] (.int x :: st) f Q := pz_go (pz_so d110_68 rfl)
theorem d110_69 : decode (pz_b 110) 69 = .ok (.iload_n 2, 1) := by decide +kernel
theorem q110_69 {dA : Nat → ClassId} {d : Nat} {st : List Value} {f : pz_F} {Q : Option Value → pz_F → Prop} {v0 v1 : Value} {x : Int32} : pz_R dA d 110 69 [v0, v1, .int x] st f Q = pz_R dA d 110 70 [v0, v1, .int x] (.int x :: st) f Q := pz_go (pz_so d110_69 rfl)
theorem d110_70 : decode (pz_b 110) 70 = .ok (.invokevirtual 130, 3) := by decide +kernel
theorem q110_70 {dA : Nat → ClassId} {d : Nat} {st : List Value} {f : pz_F} {Q : Option Value → pz_F → Prop} {v0 v1 v2 : Value} {c0 : Int32} {c1 : Int32} {b : Nat} (hr : st.length ≤ 4) : pz_R dA (d + 1) 110 70 [v0, v1, v2] (.int c1 :: .int c0 :: .ref b :: st) f Q = pz_o (pz_gu f b 6) (fun _ => pz_C dA d 108 [.ref b, .int c0, .int c1] f (fun r f' => pz_R dA (d + 1) 110 73 [v0, v1, v2] (r.toList ++ st) f' Q)) := pz_gcv (As := [.int c0, .int c1]) d110_70 rfl rfl rfl hr
theorem d110_73 : decode (pz_b 110) 73 = .ok (.return_, 1) := by decide +kernel
theorem q110_73 {dA : Nat → ClassId} {d : Nat} {f : pz_F} {Q : Option Value → pz_F → Prop} {v0 v1 v2 : Value} : pz_R dA d 110 73 [v0, v1, v2] [] f Q = Q none f := pz_gr (pz_so d110_73 rfl)
theorem d110_74 : decode (pz_b 110) 74 = .ok (.aload_n 0, 1) := by decide +kernel
theorem q110_74 {dA : Nat → ClassId} {d : Nat} {st : List Value} {f : pz_F} {Q : Option Value → pz_F → Prop} {v1 v2 : Value} {x : Nat} : pz_R dA d 110 74 [.ref x, v1, v2] st f Q = pz_R dA d 110 75 [.ref x, v1, v2] (.ref x :: st) f Q := pz_go (pz_so d110_74 rfl)
theorem d110_75 : decode (pz_b 110) 75 = .ok (.iload_n 2, 1) := by decide +kernel
theorem q110_75 {dA : Nat → ClassId} {d : Nat} {st : List Value} {f : pz_F} {Q : Option Value → pz_F → Prop} {v0 v1 : Value} {x : Int32} : pz_R dA d 110 75 [v0, v1, .int x] st f Q = pz_R dA d 110 76 [v0, v1, .int x] (.int x :: st) f Q := pz_go (pz_so d110_75 rfl)
theorem d110_76 : decode (pz_b 110) 76 = .ok (.invokevirtual 134, 3) := by decide +kernel
theorem q110_76 {dA : Nat → ClassId} {d : Nat} {st : List Value} {f : pz_F} {Q : Option Value → pz_F → Prop} {v0 v1 v2 : Value} {c0 : Int32} {b : Nat} (hr : st.length ≤ 4) : pz_R dA (d + 1) 110 76 [v0, v1, v2] (.int c0 :: .ref b :: st) f Q = pz_o (pz_gu f b 6) (fun _ => pz_C dA d 109 [.ref b, .int c0] f (fun r f' => pz_R dA (d + 1) 110 79 [v0, v1, v2] (r.toList ++ st) f' Q)) := pz_gcv (As := [.int c0]) d110_76 rfl rfl rfl hr
theorem d110_79 : decode (pz_b 110) 79 = .ok (.ifCond .ne 4, 3) := by decide +kernel
theorem q110_79 {dA : Nat → ClassId} {d : Nat} {st : List Value} {f : pz_F} {Q : Option Value → pz_F → Prop} {v0 v1 v2 : Value} {x : Int32} : pz_R dA d 110 79 [v0, v1, v2] (.int x :: st) f Q = (if x = 0 then pz_R dA d 110 82 [v0, v1, v2] st f Q else pz_R dA d 110 83 [v0, v1, v2] st f Q) := pz_gj1 .ne d110_79 rfl
theorem d110_82 : decode (pz_b 110) 82 = .ok (.return_, 1) := by decide +kernel
theorem q110_82 {dA : Nat → ClassId} {d : Nat} {f : pz_F} {Q : Option Value → pz_F → Prop} {v0 v1 v2 : Value} : pz_R dA d 110 82 [v0, v1, v2] [] f Q = Q none f := pz_gr (pz_so d110_82 rfl)
theorem d110_83 : decode (pz_b 110) 83 = .ok (.aload_n 0, 1) := by decide +kernel
theorem q110_83 {dA : Nat → ClassId} {d : Nat} {st : List Value} {f : pz_F} {Q : Option Value → pz_F → Prop} {v1 v2 : Value} {x : Nat} : pz_R dA d 110 83 [.ref x, v1, v2] st f Q = pz_R dA d 110 84 [.ref x, v1, v2] (.ref x :: st) f Q := pz_go (pz_so d110_83 rfl)
theorem d110_84 : decode (pz_b 110) 84 = .ok (.getfield 72, 3) := by decide +kernel
theorem q110_84 {dA : Nat → ClassId} {d : Nat} {st : List Value} {f : pz_F} {Q : Option Value → pz_F → Prop} {v0 v1 v2 : Value} {a : Nat} : pz_R dA d 110 84 [v0, v1, v2] (.ref a :: st) f Q = pz_o (pz_gf f a 6 22) (fun v => pz_R dA d 110 87 [v0, v1, v2] (v :: st) f Q) := pz_gg d110_84 rfl
theorem d110_87 : decode (pz_b 110) 87 = .ok (.iconst 4, 1) := by decide +kernel
theorem q110_87 {dA : Nat → ClassId} {d : Nat} {st : List Value} {f : pz_F} {Q : Option Value → pz_F → Prop} {v0 v1 v2 : Value} : pz_R dA d 110 87 [v0, v1, v2] st f Q = pz_R dA d 110 88 [v0, v1, v2] (.int 4 :: st) f Q := pz_go (pz_so d110_87 rfl)
theorem d110_88 : decode (pz_b 110) 88 = .ok (.iaload, 1) := by decide +kernel
theorem q110_88 {dA : Nat → ClassId} {d : Nat} {st : List Value} {f : pz_F} {Q : Option Value → pz_F → Prop} {v0 v1 v2 : Value} {i : Int32} {a : Nat} : pz_R dA d 110 88 [v0, v1, v2] (.int i :: .ref a :: st) f Q = pz_o (pz_il (dA 0) f a i) (fun x => pz_R dA d 110 89 [v0, v1, v2] (.int x :: st) f Q) := pz_gil d110_88
theorem d110_89 : decode (pz_b 110) 89 = .ok (.iconst 1, 1) := by decide +kernel
theorem q110_89 {dA : Nat → ClassId} {d : Nat} {st : List Value} {f : pz_F} {Q : Option Value → pz_F → Prop} {v0 v1 v2 : Value} : pz_R dA d 110 89 [v0, v1, v2] st f Q = pz_R dA d 110 90 [v0, v1, v2] (.int 1 :: st) f Q := pz_go (pz_so d110_89 rfl)
theorem d110_90 : decode (pz_b 110) 90 = .ok (.if_icmp .ne 66, 3) := by decide +kernel
theorem q110_90 {dA : Nat → ClassId} {d : Nat} {st : List Value} {f : pz_F} {Q : Option Value → pz_F → Prop} {v0 v1 v2 : Value} {x y : Int32} : pz_R dA d 110 90 [v0, v1, v2] (.int y :: .int x :: st) f Q = (if x = y then pz_R dA d 110 93 [v0, v1, v2] st f Q else pz_R dA d 110 156 [v0, v1, v2] st f Q) := pz_gjn .ne d110_90 rfl
theorem d110_93 : decode (pz_b 110) 93 = .ok (.aload_n 0, 1) := by decide +kernel
theorem q110_93 {dA : Nat → ClassId} {d : Nat} {st : List Value} {f : pz_F} {Q : Option Value → pz_F → Prop} {v1 v2 : Value} {x : Nat} : pz_R dA d 110 93 [.ref x, v1, v2] st f Q = pz_R dA d 110 94 [.ref x, v1, v2] (.ref x :: st) f Q := pz_go (pz_so d110_93 rfl)
theorem d110_94 : decode (pz_b 110) 94 = .ok (.getfield 72, 3) := by decide +kernel
theorem q110_94 {dA : Nat → ClassId} {d : Nat} {st : List Value} {f : pz_F} {Q : Option Value → pz_F → Prop} {v0 v1 v2 : Value} {a : Nat} : pz_R dA d 110 94 [v0, v1, v2] (.ref a :: st) f Q = pz_o (pz_gf f a 6 22) (fun v => pz_R dA d 110 97 [v0, v1, v2] (v :: st) f Q) := pz_gg d110_94 rfl
theorem d110_97 : decode (pz_b 110) 97 = .ok (.bipush 8, 2) := by decide +kernel
theorem q110_97 {dA : Nat → ClassId} {d : Nat} {st : List Value} {f : pz_F} {Q : Option Value → pz_F → Prop} {v0 v1 v2 : Value} : pz_R dA d 110 97 [v0, v1, v2] st f Q = pz_R dA d 110 99 [v0, v1, v2] (.int 8 :: st) f Q := pz_go (pz_so d110_97 rfl)
theorem d110_99 : decode (pz_b 110) 99 = .ok (.iaload, 1) := by decide +kernel
theorem q110_99 {dA : Nat → ClassId} {d : Nat} {st : List Value} {f : pz_F} {Q : Option Value → pz_F → Prop} {v0 v1 v2 : Value} {i : Int32} {a : Nat} : pz_R dA d 110 99 [v0, v1, v2] (.int i :: .ref a :: st) f Q = pz_o (pz_il (dA 0) f a i) (fun x => pz_R dA d 110 100 [v0, v1, v2] (.int x :: st) f Q) := pz_gil d110_99
theorem d110_100 : decode (pz_b 110) 100 = .ok (.aload_n 0, 1) := by decide +kernel
theorem q110_100 {dA : Nat → ClassId} {d : Nat} {st : List Value} {f : pz_F} {Q : Option Value → pz_F → Prop} {v1 v2 : Value} {x : Nat} : pz_R dA d 110 100 [.ref x, v1, v2] st f Q = pz_R dA d 110 101 [.ref x, v1, v2] (.ref x :: st) f Q := pz_go (pz_so d110_100 rfl)
theorem d110_101 : decode (pz_b 110) 101 = .ok (.getfield 44, 3) := by decide +kernel
theorem q110_101 {dA : Nat → ClassId} {d : Nat} {st : List Value} {f : pz_F} {Q : Option Value → pz_F → Prop} {v0 v1 v2 : Value} {a : Nat} : pz_R dA d 110 101 [v0, v1, v2] (.ref a :: st) f Q = pz_o (pz_gf f a 6 12) (fun v => pz_R dA d 110 104 [v0, v1, v2] (v :: st) f Q) := pz_gg d110_101 rfl
theorem d110_104 : decode (pz_b 110) 104 = .ok (.iload_n 2, 1) := by decide +kernel
theorem q110_104 {dA : Nat → ClassId} {d : Nat} {st : List Value} {f : pz_F} {Q : Option Value → pz_F → Prop} {v0 v1 : Value} {x : Int32} : pz_R dA d 110 104 [v0, v1, .int x] st f Q = pz_R dA d 110 105 [v0, v1, .int x] (.int x :: st) f Q := pz_go (pz_so d110_104 rfl)
theorem d110_105 : decode (pz_b 110) 105 = .ok (.iaload, 1) := by decide +kernel
theorem q110_105 {dA : Nat → ClassId} {d : Nat} {st : List Value} {f : pz_F} {Q : Option Value → pz_F → Prop} {v0 v1 v2 : Value} {i : Int32} {a : Nat} : pz_R dA d 110 105 [v0, v1, v2] (.int i :: .ref a :: st) f Q = pz_o (pz_il (dA 0) f a i) (fun x => pz_R dA d 110 106 [v0, v1, v2] (.int x :: st) f Q) := pz_gil d110_105
theorem d110_106 : decode (pz_b 110) 106 = .ok (.if_icmp .ne 50, 3) := by decide +kernel
theorem q110_106 {dA : Nat → ClassId} {d : Nat} {st : List Value} {f : pz_F} {Q : Option Value → pz_F → Prop} {v0 v1 v2 : Value} {x y : Int32} : pz_R dA d 110 106 [v0, v1, v2] (.int y :: .int x :: st) f Q = (if x = y then pz_R dA d 110 109 [v0, v1, v2] st f Q else pz_R dA d 110 156 [v0, v1, v2] st f Q) := pz_gjn .ne d110_106 rfl
theorem d110_109 : decode (pz_b 110) 109 = .ok (.aload_n 0, 1) := by decide +kernel
theorem q110_109 {dA : Nat → ClassId} {d : Nat} {st : List Value} {f : pz_F} {Q : Option Value → pz_F → Prop} {v1 v2 : Value} {x : Nat} : pz_R dA d 110 109 [.ref x, v1, v2] st f Q = pz_R dA d 110 110 [.ref x, v1, v2] (.ref x :: st) f Q := pz_go (pz_so d110_109 rfl)
theorem d110_110 : decode (pz_b 110) 110 = .ok (.getfield 35, 3) := by decide +kernel
theorem q110_110 {dA : Nat → ClassId} {d : Nat} {st : List Value} {f : pz_F} {Q : Option Value → pz_F → Prop} {v0 v1 v2 : Value} {a : Nat} : pz_R dA d 110 110 [v0, v1, v2] (.ref a :: st) f Q = pz_o (pz_gf f a 6 9) (fun v => pz_R dA d 110 113 [v0, v1, v2] (v :: st) f Q) := pz_gg d110_110 rfl
theorem d110_113 : decode (pz_b 110) 113 = .ok (.iload_n 2, 1) := by decide +kernel
theorem q110_113 {dA : Nat → ClassId} {d : Nat} {st : List Value} {f : pz_F} {Q : Option Value → pz_F → Prop} {v0 v1 : Value} {x : Int32} : pz_R dA d 110 113 [v0, v1, .int x] st f Q = pz_R dA d 110 114 [v0, v1, .int x] (.int x :: st) f Q := pz_go (pz_so d110_113 rfl)
theorem d110_114 : decode (pz_b 110) 114 = .ok (.aload_n 0, 1) := by decide +kernel
theorem q110_114 {dA : Nat → ClassId} {d : Nat} {st : List Value} {f : pz_F} {Q : Option Value → pz_F → Prop} {v1 v2 : Value} {x : Nat} : pz_R dA d 110 114 [.ref x, v1, v2] st f Q = pz_R dA d 110 115 [.ref x, v1, v2] (.ref x :: st) f Q := pz_go (pz_so d110_114 rfl)
theorem d110_115 : decode (pz_b 110) 115 = .ok (.getfield 35, 3) := by decide +kernel
theorem q110_115 {dA : Nat → ClassId} {d : Nat} {st : List Value} {f : pz_F} {Q : Option Value → pz_F → Prop} {v0 v1 v2 : Value} {a : Nat} : pz_R dA d 110 115 [v0, v1, v2] (.ref a :: st) f Q = pz_o (pz_gf f a 6 9) (fun v => pz_R dA d 110 118 [v0, v1, v2] (v :: st) f Q) := pz_gg d110_115 rfl
theorem d110_118 : decode (pz_b 110) 118 = .ok (.iload_n 2, 1) := by decide +kernel
theorem q110_118 {dA : Nat → ClassId} {d : Nat} {st : List Value} {f : pz_F} {Q : Option Value → pz_F → Prop} {v0 v1 : Value} {x : Int32} : pz_R dA d 110 118 [v0, v1, .int x] st f Q = pz_R dA d 110 119 [v0, v1, .int x] (.int x :: st) f Q := pz_go (pz_so d110_118 rfl)
theorem d110_119 : decode (pz_b 110) 119 = .ok (.iaload, 1) := by decide +kernel
theorem q110_119 {dA : Nat → ClassId} {d : Nat} {st : List Value} {f : pz_F} {Q : Option Value → pz_F → Prop} {v0 v1 v2 : Value} {i : Int32} {a : Nat} : pz_R dA d 110 119 [v0, v1, v2] (.int i :: .ref a :: st) f Q = pz_o (pz_il (dA 0) f a i) (fun x => pz_R dA d 110 120 [v0, v1, v2] (.int x :: st) f Q) := pz_gil d110_119
theorem d110_120 : decode (pz_b 110) 120 = .ok (.aload_n 0, 1) := by decide +kernel
theorem q110_120 {dA : Nat → ClassId} {d : Nat} {st : List Value} {f : pz_F} {Q : Option Value → pz_F → Prop} {v1 v2 : Value} {x : Nat} : pz_R dA d 110 120 [.ref x, v1, v2] st f Q = pz_R dA d 110 121 [.ref x, v1, v2] (.ref x :: st) f Q := pz_go (pz_so d110_120 rfl)
theorem d110_121 : decode (pz_b 110) 121 = .ok (.getfield 72, 3) := by decide +kernel
theorem q110_121 {dA : Nat → ClassId} {d : Nat} {st : List Value} {f : pz_F} {Q : Option Value → pz_F → Prop} {v0 v1 v2 : Value} {a : Nat} : pz_R dA d 110 121 [v0, v1, v2] (.ref a :: st) f Q = pz_o (pz_gf f a 6 22) (fun v => pz_R dA d 110 124 [v0, v1, v2] (v :: st) f Q) := pz_gg d110_121 rfl
theorem d110_124 : decode (pz_b 110) 124 = .ok (.bipush 7, 2) := by decide +kernel
theorem q110_124 {dA : Nat → ClassId} {d : Nat} {st : List Value} {f : pz_F} {Q : Option Value → pz_F → Prop} {v0 v1 v2 : Value} : pz_R dA d 110 124 [v0, v1, v2] st f Q = pz_R dA d 110 126 [v0, v1, v2] (.int 7 :: st) f Q := pz_go (pz_so d110_124 rfl)
theorem d110_126 : decode (pz_b 110) 126 = .ok (.iaload, 1) := by decide +kernel
theorem q110_126 {dA : Nat → ClassId} {d : Nat} {st : List Value} {f : pz_F} {Q : Option Value → pz_F → Prop} {v0 v1 v2 : Value} {i : Int32} {a : Nat} : pz_R dA d 110 126 [v0, v1, v2] (.int i :: .ref a :: st) f Q = pz_o (pz_il (dA 0) f a i) (fun x => pz_R dA d 110 127 [v0, v1, v2] (.int x :: st) f Q) := pz_gil d110_126
theorem d110_127 : decode (pz_b 110) 127 = .ok (.invokestatic 107, 3) := by decide +kernel
theorem q110_127 {dA : Nat → ClassId} {d : Nat} {st : List Value} {f : pz_F} {Q : Option Value → pz_F → Prop} {v0 v1 v2 : Value} {c0 : Int32} {c1 : Int32} (hr : st.length ≤ 4) : pz_R dA (d + 1) 110 127 [v0, v1, v2] (.int c1 :: .int c0 :: st) f Q = pz_C dA d 92 [.int c0, .int c1] f (fun r f' => pz_R dA (d + 1) 110 130 [v0, v1, v2] (r.toList ++ st) f' Q) := pz_gcs (As := [.int c0, .int c1]) d110_127 rfl rfl rfl hr
theorem d110_130 : decode (pz_b 110) 130 = .ok (.iastore, 1) := by decide +kernel
theorem q110_130 {dA : Nat → ClassId} {d : Nat} {st : List Value} {f : pz_F} {Q : Option Value → pz_F → Prop} {v0 v1 v2 : Value} {x i : Int32} {a : Nat} : pz_R dA d 110 130 [v0, v1, v2] (.int x :: .int i :: .ref a :: st) f Q = pz_o (pz_is (dA 0) f a i x) (fun f' => pz_R dA d 110 131 [v0, v1, v2] st f' Q) := pz_gis d110_130
theorem d110_131 : decode (pz_b 110) 131 = .ok (.aload_n 0, 1) := by decide +kernel
theorem q110_131 {dA : Nat → ClassId} {d : Nat} {st : List Value} {f : pz_F} {Q : Option Value → pz_F → Prop} {v1 v2 : Value} {x : Nat} : pz_R dA d 110 131 [.ref x, v1, v2] st f Q = pz_R dA d 110 132 [.ref x, v1, v2] (.ref x :: st) f Q := pz_go (pz_so d110_131 rfl)
theorem d110_132 : decode (pz_b 110) 132 = .ok (.getfield 41, 3) := by decide +kernel
theorem q110_132 {dA : Nat → ClassId} {d : Nat} {st : List Value} {f : pz_F} {Q : Option Value → pz_F → Prop} {v0 v1 v2 : Value} {a : Nat} : pz_R dA d 110 132 [v0, v1, v2] (.ref a :: st) f Q = pz_o (pz_gf f a 6 11) (fun v => pz_R dA d 110 135 [v0, v1, v2] (v :: st) f Q) := pz_gg d110_132 rfl
theorem d110_135 : decode (pz_b 110) 135 = .ok (.iload_n 2, 1) := by decide +kernel
theorem q110_135 {dA : Nat → ClassId} {d : Nat} {st : List Value} {f : pz_F} {Q : Option Value → pz_F → Prop} {v0 v1 : Value} {x : Int32} : pz_R dA d 110 135 [v0, v1, .int x] st f Q = pz_R dA d 110 136 [v0, v1, .int x] (.int x :: st) f Q := pz_go (pz_so d110_135 rfl)
theorem d110_136 : decode (pz_b 110) 136 = .ok (.aload_n 0, 1) := by decide +kernel
theorem q110_136 {dA : Nat → ClassId} {d : Nat} {st : List Value} {f : pz_F} {Q : Option Value → pz_F → Prop} {v1 v2 : Value} {x : Nat} : pz_R dA d 110 136 [.ref x, v1, v2] st f Q = pz_R dA d 110 137 [.ref x, v1, v2] (.ref x :: st) f Q := pz_go (pz_so d110_136 rfl)
theorem d110_137 : decode (pz_b 110) 137 = .ok (.getfield 41, 3) := by decide +kernel
theorem q110_137 {dA : Nat → ClassId} {d : Nat} {st : List Value} {f : pz_F} {Q : Option Value → pz_F → Prop} {v0 v1 v2 : Value} {a : Nat} : pz_R dA d 110 137 [v0, v1, v2] (.ref a :: st) f Q = pz_o (pz_gf f a 6 11) (fun v => pz_R dA d 110 140 [v0, v1, v2] (v :: st) f Q) := pz_gg d110_137 rfl
theorem d110_140 : decode (pz_b 110) 140 = .ok (.iload_n 2, 1) := by decide +kernel
theorem q110_140 {dA : Nat → ClassId} {d : Nat} {st : List Value} {f : pz_F} {Q : Option Value → pz_F → Prop} {v0 v1 : Value} {x : Int32} : pz_R dA d 110 140 [v0, v1, .int x] st f Q = pz_R dA d 110 141 [v0, v1, .int x] (.int x :: st) f Q := pz_go (pz_so d110_140 rfl)
theorem d110_141 : decode (pz_b 110) 141 = .ok (.iaload, 1) := by decide +kernel
theorem q110_141 {dA : Nat → ClassId} {d : Nat} {st : List Value} {f : pz_F} {Q : Option Value → pz_F → Prop} {v0 v1 v2 : Value} {i : Int32} {a : Nat} : pz_R dA d 110 141 [v0, v1, v2] (.int i :: .ref a :: st) f Q = pz_o (pz_il (dA 0) f a i) (fun x => pz_R dA d 110 142 [v0, v1, v2] (.int x :: st) f Q) := pz_gil d110_141
theorem d110_142 : decode (pz_b 110) 142 = .ok (.aload_n 0, 1) := by decide +kernel
theorem q110_142 {dA : Nat → ClassId} {d : Nat} {st : List Value} {f : pz_F} {Q : Option Value → pz_F → Prop} {v1 v2 : Value} {x : Nat} : pz_R dA d 110 142 [.ref x, v1, v2] st f Q = pz_R dA d 110 143 [.ref x, v1, v2] (.ref x :: st) f Q := pz_go (pz_so d110_142 rfl)
theorem d110_143 : decode (pz_b 110) 143 = .ok (.getfield 72, 3) := by decide +kernel
theorem q110_143 {dA : Nat → ClassId} {d : Nat} {st : List Value} {f : pz_F} {Q : Option Value → pz_F → Prop} {v0 v1 v2 : Value} {a : Nat} : pz_R dA d 110 143 [v0, v1, v2] (.ref a :: st) f Q = pz_o (pz_gf f a 6 22) (fun v => pz_R dA d 110 146 [v0, v1, v2] (v :: st) f Q) := pz_gg d110_143 rfl
theorem d110_146 : decode (pz_b 110) 146 = .ok (.bipush 10, 2) := by decide +kernel
theorem q110_146 {dA : Nat → ClassId} {d : Nat} {st : List Value} {f : pz_F} {Q : Option Value → pz_F → Prop} {v0 v1 v2 : Value} : pz_R dA d 110 146 [v0, v1, v2] st f Q = pz_R dA d 110 148 [v0, v1, v2] (.int 10 :: st) f Q := pz_go (pz_so d110_146 rfl)
theorem d110_148 : decode (pz_b 110) 148 = .ok (.iaload, 1) := by decide +kernel
theorem q110_148 {dA : Nat → ClassId} {d : Nat} {st : List Value} {f : pz_F} {Q : Option Value → pz_F → Prop} {v0 v1 v2 : Value} {i : Int32} {a : Nat} : pz_R dA d 110 148 [v0, v1, v2] (.int i :: .ref a :: st) f Q = pz_o (pz_il (dA 0) f a i) (fun x => pz_R dA d 110 149 [v0, v1, v2] (.int x :: st) f Q) := pz_gil d110_148
theorem d110_149 : decode (pz_b 110) 149 = .ok (.invokestatic 107, 3) := by decide +kernel
theorem q110_149 {dA : Nat → ClassId} {d : Nat} {st : List Value} {f : pz_F} {Q : Option Value → pz_F → Prop} {v0 v1 v2 : Value} {c0 : Int32} {c1 : Int32} (hr : st.length ≤ 4) : pz_R dA (d + 1) 110 149 [v0, v1, v2] (.int c1 :: .int c0 :: st) f Q = pz_C dA d 92 [.int c0, .int c1] f (fun r f' => pz_R dA (d + 1) 110 152 [v0, v1, v2] (r.toList ++ st) f' Q) := pz_gcs (As := [.int c0, .int c1]) d110_149 rfl rfl rfl hr
theorem d110_152 : decode (pz_b 110) 152 = .ok (.iastore, 1) := by decide +kernel
theorem q110_152 {dA : Nat → ClassId} {d : Nat} {st : List Value} {f : pz_F} {Q : Option Value → pz_F → Prop} {v0 v1 v2 : Value} {x i : Int32} {a : Nat} : pz_R dA d 110 152 [v0, v1, v2] (.int x :: .int i :: .ref a :: st) f Q = pz_o (pz_is (dA 0) f a i x) (fun f' => pz_R dA d 110 153 [v0, v1, v2] st f' Q) := pz_gis d110_152
theorem d110_153 : decode (pz_b 110) 153 = .ok (.goto 8, 3) := by decide +kernel
theorem q110_153 {dA : Nat → ClassId} {d : Nat} {st : List Value} {f : pz_F} {Q : Option Value → pz_F → Prop} {v0 v1 v2 : Value} : pz_R dA d 110 153 [v0, v1, v2] st f Q = pz_R dA d 110 161 [v0, v1, v2] st f Q := pz_go (pz_so d110_153 rfl)
theorem d110_156 : decode (pz_b 110) 156 = .ok (.aload_n 0, 1) := by decide +kernel
theorem q110_156 {dA : Nat → ClassId} {d : Nat} {st : List Value} {f : pz_F} {Q : Option Value → pz_F → Prop} {v1 v2 : Value} {x : Nat} : pz_R dA d 110 156 [.ref x, v1, v2] st f Q = pz_R dA d 110 157 [.ref x, v1, v2] (.ref x :: st) f Q := pz_go (pz_so d110_156 rfl)
theorem d110_157 : decode (pz_b 110) 157 = .ok (.iload_n 2, 1) := by decide +kernel
theorem q110_157 {dA : Nat → ClassId} {d : Nat} {st : List Value} {f : pz_F} {Q : Option Value → pz_F → Prop} {v0 v1 : Value} {x : Int32} : pz_R dA d 110 157 [v0, v1, .int x] st f Q = pz_R dA d 110 158 [v0, v1, .int x] (.int x :: st) f Q := pz_go (pz_so d110_157 rfl)
theorem d110_158 : decode (pz_b 110) 158 = .ok (.invokevirtual 124, 3) := by decide +kernel
theorem q110_158 {dA : Nat → ClassId} {d : Nat} {st : List Value} {f : pz_F} {Q : Option Value → pz_F → Prop} {v0 v1 v2 : Value} {c0 : Int32} {b : Nat} (hr : st.length ≤ 4) : pz_R dA (d + 1) 110 158 [v0, v1, v2] (.int c0 :: .ref b :: st) f Q = pz_o (pz_gu f b 6) (fun _ => pz_C dA d 107 [.ref b, .int c0] f (fun r f' => pz_R dA (d + 1) 110 161 [v0, v1, v2] (r.toList ++ st) f' Q)) := pz_gcv (As := [.int c0]) d110_158 rfl rfl rfl hr
theorem d110_161 : decode (pz_b 110) 161 = .ok (.aload_n 0, 1) := by decide +kernel
theorem q110_161 {dA : Nat → ClassId} {d : Nat} {st : List Value} {f : pz_F} {Q : Option Value → pz_F → Prop} {v1 v2 : Value} {x : Nat} : pz_R dA d 110 161 [.ref x, v1, v2] st f Q = pz_R dA d 110 162 [.ref x, v1, v2] (.ref x :: st) f Q := pz_go (pz_so d110_161 rfl)
theorem d110_162 : decode (pz_b 110) 162 = .ok (.iload_n 1, 1) := by decide +kernel
theorem q110_162 {dA : Nat → ClassId} {d : Nat} {st : List Value} {f : pz_F} {Q : Option Value → pz_F → Prop} {v0 v2 : Value} {x : Int32} : pz_R dA d 110 162 [v0, .int x, v2] st f Q = pz_R dA d 110 163 [v0, .int x, v2] (.int x :: st) f Q := pz_go (pz_so d110_162 rfl)
theorem d110_163 : decode (pz_b 110) 163 = .ok (.invokevirtual 127, 3) := by decide +kernel
theorem q110_163 {dA : Nat → ClassId} {d : Nat} {st : List Value} {f : pz_F} {Q : Option Value → pz_F → Prop} {v0 v1 v2 : Value} {c0 : Int32} {b : Nat} (hr : st.length ≤ 4) : pz_R dA (d + 1) 110 163 [v0, v1, v2] (.int c0 :: .ref b :: st) f Q = pz_o (pz_gu f b 6) (fun _ => pz_C dA d 106 [.ref b, .int c0] f (fun r f' => pz_R dA (d + 1) 110 166 [v0, v1, v2] (r.toList ++ st) f' Q)) := pz_gcv (As := [.int c0]) d110_163 rfl rfl rfl hr
theorem d110_166 : decode (pz_b 110) 166 = .ok (.return_, 1) := by decide +kernel
theorem q110_166 {dA : Nat → ClassId} {d : Nat} {f : pz_F} {Q : Option Value → pz_F → Prop} {v0 v1 v2 : Value} : pz_R dA d 110 166 [v0, v1, v2] [] f Q = Q none f := pz_gr (pz_so d110_166 rfl)
/-! X_acknowledged (I)V -/
theorem e111 {dA : Nat → ClassId} {d : Nat} {f : pz_F} {Q : Option Value → pz_F → Prop} {a0 : Nat} {a1 : Int32} : pz_C dA d 111 [.ref a0, .int a1] f Q = pz_R dA d 111 0 [.ref a0, .int a1, .retAddr 0] [] f Q := rfl
theorem d111_0 : decode (pz_b 111) 0 = .ok (.bipush 6, 2) := by decide +kernel
theorem q111_0 {dA : Nat → ClassId} {d : Nat} {st : List Value} {f : pz_F} {Q : Option Value → pz_F → Prop} {v0 v1 v2 : Value} : pz_R dA d 111 0 [v0, v1, v2] st f Q = pz_R dA d 111 2 [v0, v1, v2] (.int 6 :: st) f Q := pz_go (pz_so d111_0 rfl)
theorem d111_2 : decode (pz_b 111) 2 = .ok (.iload_n 1, 1) := by decide +kernel
theorem q111_2 {dA : Nat → ClassId} {d : Nat} {st : List Value} {f : pz_F} {Q : Option Value → pz_F → Prop} {v0 v2 : Value} {x : Int32} : pz_R dA d 111 2 [v0, .int x, v2] st f Q = pz_R dA d 111 3 [v0, .int x, v2] (.int x :: st) f Q := pz_go (pz_so d111_2 rfl)
theorem d111_3 : decode (pz_b 111) 3 = .ok (.imul, 1) := by decide +kernel
theorem q111_3 {dA : Nat → ClassId} {d : Nat} {st : List Value} {f : pz_F} {Q : Option Value → pz_F → Prop} {v0 v1 v2 : Value} {x y : Int32} : pz_R dA d 111 3 [v0, v1, v2] (.int y :: .int x :: st) f Q = pz_R dA d 111 4 [v0, v1, v2] (.int (x * y) :: st) f Q := pz_go (pz_so d111_3 rfl)
theorem d111_4 : decode (pz_b 111) 4 = .ok (.aload_n 0, 1) := by decide +kernel
theorem q111_4 {dA : Nat → ClassId} {d : Nat} {st : List Value} {f : pz_F} {Q : Option Value → pz_F → Prop} {v1 v2 : Value} {x : Nat} : pz_R dA d 111 4 [.ref x, v1, v2] st f Q = pz_R dA d 111 5 [.ref x, v1, v2] (.ref x :: st) f Q := pz_go (pz_so d111_4 rfl)
theorem d111_5 : decode (pz_b 111) 5 = .ok (.getfield 72, 3) := by decide +kernel
theorem q111_5 {dA : Nat → ClassId} {d : Nat} {st : List Value} {f : pz_F} {Q : Option Value → pz_F → Prop} {v0 v1 v2 : Value} {a : Nat} : pz_R dA d 111 5 [v0, v1, v2] (.ref a :: st) f Q = pz_o (pz_gf f a 6 22) (fun v => pz_R dA d 111 8 [v0, v1, v2] (v :: st) f Q) := pz_gg d111_5 rfl
theorem d111_8 : decode (pz_b 111) 8 = .ok (.iconst 3, 1) := by decide +kernel
theorem q111_8 {dA : Nat → ClassId} {d : Nat} {st : List Value} {f : pz_F} {Q : Option Value → pz_F → Prop} {v0 v1 v2 : Value} : pz_R dA d 111 8 [v0, v1, v2] st f Q = pz_R dA d 111 9 [v0, v1, v2] (.int 3 :: st) f Q := pz_go (pz_so d111_8 rfl)
theorem d111_9 : decode (pz_b 111) 9 = .ok (.iaload, 1) := by decide +kernel
theorem q111_9 {dA : Nat → ClassId} {d : Nat} {st : List Value} {f : pz_F} {Q : Option Value → pz_F → Prop} {v0 v1 v2 : Value} {i : Int32} {a : Nat} : pz_R dA d 111 9 [v0, v1, v2] (.int i :: .ref a :: st) f Q = pz_o (pz_il (dA 0) f a i) (fun x => pz_R dA d 111 10 [v0, v1, v2] (.int x :: st) f Q) := pz_gil d111_9
theorem d111_10 : decode (pz_b 111) 10 = .ok (.iadd, 1) := by decide +kernel
theorem q111_10 {dA : Nat → ClassId} {d : Nat} {st : List Value} {f : pz_F} {Q : Option Value → pz_F → Prop} {v0 v1 v2 : Value} {x y : Int32} : pz_R dA d 111 10 [v0, v1, v2] (.int y :: .int x :: st) f Q = pz_R dA d 111 11 [v0, v1, v2] (.int (x + y) :: st) f Q := pz_go (pz_so d111_10 rfl)
theorem d111_11 : decode (pz_b 111) 11 = .ok (.istore_n 2, 1) := by decide +kernel
theorem q111_11 {dA : Nat → ClassId} {d : Nat} {st : List Value} {f : pz_F} {Q : Option Value → pz_F → Prop} {v0 v1 v2 : Value} {x : Int32} : pz_R dA d 111 11 [v0, v1, v2] (.int x :: st) f Q = pz_R dA d 111 12 [v0, v1, .int x] st f Q := pz_go (pz_so d111_11 rfl)
theorem d111_12 : decode (pz_b 111) 12 = .ok (.aload_n 0, 1) := by decide +kernel
theorem q111_12 {dA : Nat → ClassId} {d : Nat} {st : List Value} {f : pz_F} {Q : Option Value → pz_F → Prop} {v1 v2 : Value} {x : Nat} : pz_R dA d 111 12 [.ref x, v1, v2] st f Q = pz_R dA d 111 13 [.ref x, v1, v2] (.ref x :: st) f Q := pz_go (pz_so d111_12 rfl)
theorem d111_13 : decode (pz_b 111) 13 = .ok (.getfield 50, 3) := by decide +kernel
theorem q111_13 {dA : Nat → ClassId} {d : Nat} {st : List Value} {f : pz_F} {Q : Option Value → pz_F → Prop} {v0 v1 v2 : Value} {a : Nat} : pz_R dA d 111 13 [v0, v1, v2] (.ref a :: st) f Q = pz_o (pz_gf f a 6 14) (fun v => pz_R dA d 111 16 [v0, v1, v2] (v :: st) f Q) := pz_gg d111_13 rfl
theorem d111_16 : decode (pz_b 111) 16 = .ok (.iload_n 2, 1) := by decide +kernel
theorem q111_16 {dA : Nat → ClassId} {d : Nat} {st : List Value} {f : pz_F} {Q : Option Value → pz_F → Prop} {v0 v1 : Value} {x : Int32} : pz_R dA d 111 16 [v0, v1, .int x] st f Q = pz_R dA d 111 17 [v0, v1, .int x] (.int x :: st) f Q := pz_go (pz_so d111_16 rfl)
theorem d111_17 : decode (pz_b 111) 17 = .ok (.baload, 1) := by decide +kernel
theorem q111_17 {dA : Nat → ClassId} {d : Nat} {st : List Value} {f : pz_F} {Q : Option Value → pz_F → Prop} {v0 v1 v2 : Value} {i : Int32} {a : Nat} : pz_R dA d 111 17 [v0, v1, v2] (.int i :: .ref a :: st) f Q = pz_o (pz_il (dA 1) f a i) (fun x => pz_R dA d 111 18 [v0, v1, v2] (.int x :: st) f Q) := pz_gzl d111_17
theorem d111_18 : decode (pz_b 111) 18 = .ok (.ifCond .eq 35, 3) := by decide +kernel
theorem q111_18 {dA : Nat → ClassId} {d : Nat} {st : List Value} {f : pz_F} {Q : Option Value → pz_F → Prop} {v0 v1 v2 : Value} {x : Int32} : pz_R dA d 111 18 [v0, v1, v2] (.int x :: st) f Q = (if x = 0 then pz_R dA d 111 53 [v0, v1, v2] st f Q else pz_R dA d 111 21 [v0, v1, v2] st f Q) := pz_gj1 .eq d111_18 rfl
theorem d111_21 : decode (pz_b 111) 21 = .ok (.aload_n 0, 1) := by decide +kernel
theorem q111_21 {dA : Nat → ClassId} {d : Nat} {st : List Value} {f : pz_F} {Q : Option Value → pz_F → Prop} {v1 v2 : Value} {x : Nat} : pz_R dA d 111 21 [.ref x, v1, v2] st f Q = pz_R dA d 111 22 [.ref x, v1, v2] (.ref x :: st) f Q := pz_go (pz_so d111_21 rfl)
theorem d111_22 : decode (pz_b 111) 22 = .ok (.getfield 44, 3) := by decide +kernel
theorem q111_22 {dA : Nat → ClassId} {d : Nat} {st : List Value} {f : pz_F} {Q : Option Value → pz_F → Prop} {v0 v1 v2 : Value} {a : Nat} : pz_R dA d 111 22 [v0, v1, v2] (.ref a :: st) f Q = pz_o (pz_gf f a 6 12) (fun v => pz_R dA d 111 25 [v0, v1, v2] (v :: st) f Q) := pz_gg d111_22 rfl
theorem d111_25 : decode (pz_b 111) 25 = .ok (.iload_n 2, 1) := by decide +kernel
theorem q111_25 {dA : Nat → ClassId} {d : Nat} {st : List Value} {f : pz_F} {Q : Option Value → pz_F → Prop} {v0 v1 : Value} {x : Int32} : pz_R dA d 111 25 [v0, v1, .int x] st f Q = pz_R dA d 111 26 [v0, v1, .int x] (.int x :: st) f Q := pz_go (pz_so d111_25 rfl)
theorem d111_26 : decode (pz_b 111) 26 = .ok (.iaload, 1) := by decide +kernel
theorem q111_26 {dA : Nat → ClassId} {d : Nat} {st : List Value} {f : pz_F} {Q : Option Value → pz_F → Prop} {v0 v1 v2 : Value} {i : Int32} {a : Nat} : pz_R dA d 111 26 [v0, v1, v2] (.int i :: .ref a :: st) f Q = pz_o (pz_il (dA 0) f a i) (fun x => pz_R dA d 111 27 [v0, v1, v2] (.int x :: st) f Q) := pz_gil d111_26
theorem d111_27 : decode (pz_b 111) 27 = .ok (.aload_n 0, 1) := by decide +kernel
theorem q111_27 {dA : Nat → ClassId} {d : Nat} {st : List Value} {f : pz_F} {Q : Option Value → pz_F → Prop} {v1 v2 : Value} {x : Nat} : pz_R dA d 111 27 [.ref x, v1, v2] st f Q = pz_R dA d 111 28 [.ref x, v1, v2] (.ref x :: st) f Q := pz_go (pz_so d111_27 rfl)
theorem d111_28 : decode (pz_b 111) 28 = .ok (.getfield 72, 3) := by decide +kernel
theorem q111_28 {dA : Nat → ClassId} {d : Nat} {st : List Value} {f : pz_F} {Q : Option Value → pz_F → Prop} {v0 v1 v2 : Value} {a : Nat} : pz_R dA d 111 28 [v0, v1, v2] (.ref a :: st) f Q = pz_o (pz_gf f a 6 22) (fun v => pz_R dA d 111 31 [v0, v1, v2] (v :: st) f Q) := pz_gg d111_28 rfl
theorem d111_31 : decode (pz_b 111) 31 = .ok (.bipush 8, 2) := by decide +kernel
theorem q111_31 {dA : Nat → ClassId} {d : Nat} {st : List Value} {f : pz_F} {Q : Option Value → pz_F → Prop} {v0 v1 v2 : Value} : pz_R dA d 111 31 [v0, v1, v2] st f Q = pz_R dA d 111 33 [v0, v1, v2] (.int 8 :: st) f Q := pz_go (pz_so d111_31 rfl)
theorem d111_33 : decode (pz_b 111) 33 = .ok (.iaload, 1) := by decide +kernel
theorem q111_33 {dA : Nat → ClassId} {d : Nat} {st : List Value} {f : pz_F} {Q : Option Value → pz_F → Prop} {v0 v1 v2 : Value} {i : Int32} {a : Nat} : pz_R dA d 111 33 [v0, v1, v2] (.int i :: .ref a :: st) f Q = pz_o (pz_il (dA 0) f a i) (fun x => pz_R dA d 111 34 [v0, v1, v2] (.int x :: st) f Q) := pz_gil d111_33
theorem d111_34 : decode (pz_b 111) 34 = .ok (.if_icmp .ne 19, 3) := by decide +kernel
theorem q111_34 {dA : Nat → ClassId} {d : Nat} {st : List Value} {f : pz_F} {Q : Option Value → pz_F → Prop} {v0 v1 v2 : Value} {x y : Int32} : pz_R dA d 111 34 [v0, v1, v2] (.int y :: .int x :: st) f Q = (if x = y then pz_R dA d 111 37 [v0, v1, v2] st f Q else pz_R dA d 111 53 [v0, v1, v2] st f Q) := pz_gjn .ne d111_34 rfl
theorem d111_37 : decode (pz_b 111) 37 = .ok (.aload_n 0, 1) := by decide +kernel
theorem q111_37 {dA : Nat → ClassId} {d : Nat} {st : List Value} {f : pz_F} {Q : Option Value → pz_F → Prop} {v1 v2 : Value} {x : Nat} : pz_R dA d 111 37 [.ref x, v1, v2] st f Q = pz_R dA d 111 38 [.ref x, v1, v2] (.ref x :: st) f Q := pz_go (pz_so d111_37 rfl)
theorem d111_38 : decode (pz_b 111) 38 = .ok (.getfield 47, 3) := by decide +kernel
theorem q111_38 {dA : Nat → ClassId} {d : Nat} {st : List Value} {f : pz_F} {Q : Option Value → pz_F → Prop} {v0 v1 v2 : Value} {a : Nat} : pz_R dA d 111 38 [v0, v1, v2] (.ref a :: st) f Q = pz_o (pz_gf f a 6 13) (fun v => pz_R dA d 111 41 [v0, v1, v2] (v :: st) f Q) := pz_gg d111_38 rfl
theorem d111_41 : decode (pz_b 111) 41 = .ok (.iload_n 2, 1) := by decide +kernel
theorem q111_41 {dA : Nat → ClassId} {d : Nat} {st : List Value} {f : pz_F} {Q : Option Value → pz_F → Prop} {v0 v1 : Value} {x : Int32} : pz_R dA d 111 41 [v0, v1, .int x] st f Q = pz_R dA d 111 42 [v0, v1, .int x] (.int x :: st) f Q := pz_go (pz_so d111_41 rfl)
theorem d111_42 : decode (pz_b 111) 42 = .ok (.iaload, 1) := by decide +kernel
theorem q111_42 {dA : Nat → ClassId} {d : Nat} {st : List Value} {f : pz_F} {Q : Option Value → pz_F → Prop} {v0 v1 v2 : Value} {i : Int32} {a : Nat} : pz_R dA d 111 42 [v0, v1, v2] (.int i :: .ref a :: st) f Q = pz_o (pz_il (dA 0) f a i) (fun x => pz_R dA d 111 43 [v0, v1, v2] (.int x :: st) f Q) := pz_gil d111_42
theorem d111_43 : decode (pz_b 111) 43 = .ok (.aload_n 0, 1) := by decide +kernel
theorem q111_43 {dA : Nat → ClassId} {d : Nat} {st : List Value} {f : pz_F} {Q : Option Value → pz_F → Prop} {v1 v2 : Value} {x : Nat} : pz_R dA d 111 43 [.ref x, v1, v2] st f Q = pz_R dA d 111 44 [.ref x, v1, v2] (.ref x :: st) f Q := pz_go (pz_so d111_43 rfl)
theorem d111_44 : decode (pz_b 111) 44 = .ok (.getfield 72, 3) := by decide +kernel
theorem q111_44 {dA : Nat → ClassId} {d : Nat} {st : List Value} {f : pz_F} {Q : Option Value → pz_F → Prop} {v0 v1 v2 : Value} {a : Nat} : pz_R dA d 111 44 [v0, v1, v2] (.ref a :: st) f Q = pz_o (pz_gf f a 6 22) (fun v => pz_R dA d 111 47 [v0, v1, v2] (v :: st) f Q) := pz_gg d111_44 rfl
theorem d111_47 : decode (pz_b 111) 47 = .ok (.bipush 9, 2) := by decide +kernel
theorem q111_47 {dA : Nat → ClassId} {d : Nat} {st : List Value} {f : pz_F} {Q : Option Value → pz_F → Prop} {v0 v1 v2 : Value} : pz_R dA d 111 47 [v0, v1, v2] st f Q = pz_R dA d 111 49 [v0, v1, v2] (.int 9 :: st) f Q := pz_go (pz_so d111_47 rfl)
theorem d111_49 : decode (pz_b 111) 49 = .ok (.iaload, 1) := by decide +kernel
theorem q111_49 {dA : Nat → ClassId} {d : Nat} {st : List Value} {f : pz_F} {Q : Option Value → pz_F → Prop} {v0 v1 v2 : Value} {i : Int32} {a : Nat} : pz_R dA d 111 49 [v0, v1, v2] (.int i :: .ref a :: st) f Q = pz_o (pz_il (dA 0) f a i) (fun x => pz_R dA d 111 50 [v0, v1, v2] (.int x :: st) f Q) := pz_gil d111_49
theorem d111_50 : decode (pz_b 111) 50 = .ok (.if_icmp .eq 4, 3) := by decide +kernel
theorem q111_50 {dA : Nat → ClassId} {d : Nat} {st : List Value} {f : pz_F} {Q : Option Value → pz_F → Prop} {v0 v1 v2 : Value} {x y : Int32} : pz_R dA d 111 50 [v0, v1, v2] (.int y :: .int x :: st) f Q = (if x = y then pz_R dA d 111 54 [v0, v1, v2] st f Q else pz_R dA d 111 53 [v0, v1, v2] st f Q) := pz_gjn .eq d111_50 rfl
theorem d111_53 : decode (pz_b 111) 53 = .ok (.return_, 1) := by decide +kernel
theorem q111_53 {dA : Nat → ClassId} {d : Nat} {f : pz_F} {Q : Option Value → pz_F → Prop} {v0 v1 v2 : Value} : pz_R dA d 111 53 [v0, v1, v2] [] f Q = Q none f := pz_gr (pz_so d111_53 rfl)
theorem d111_54 : decode (pz_b 111) 54 = .ok (.aload_n 0, 1) := by decide +kernel
theorem q111_54 {dA : Nat → ClassId} {d : Nat} {st : List Value} {f : pz_F} {Q : Option Value → pz_F → Prop} {v1 v2 : Value} {x : Nat} : pz_R dA d 111 54 [.ref x, v1, v2] st f Q = pz_R dA d 111 55 [.ref x, v1, v2] (.ref x :: st) f Q := pz_go (pz_so d111_54 rfl)
theorem d111_55 : decode (pz_b 111) 55 = .ok (.getfield 50, 3) := by decide +kernel
theorem q111_55 {dA : Nat → ClassId} {d : Nat} {st : List Value} {f : pz_F} {Q : Option Value → pz_F → Prop} {v0 v1 v2 : Value} {a : Nat} : pz_R dA d 111 55 [v0, v1, v2] (.ref a :: st) f Q = pz_o (pz_gf f a 6 14) (fun v => pz_R dA d 111 58 [v0, v1, v2] (v :: st) f Q) := pz_gg d111_55 rfl
theorem d111_58 : decode (pz_b 111) 58 = .ok (.iload_n 2, 1) := by decide +kernel
theorem q111_58 {dA : Nat → ClassId} {d : Nat} {st : List Value} {f : pz_F} {Q : Option Value → pz_F → Prop} {v0 v1 : Value} {x : Int32} : pz_R dA d 111 58 [v0, v1, .int x] st f Q = pz_R dA d 111 59 [v0, v1, .int x] (.int x :: st) f Q := pz_go (pz_so d111_58 rfl)
theorem d111_59 : decode (pz_b 111) 59 = .ok (.iconst 0, 1) := by decide +kernel
theorem q111_59 {dA : Nat → ClassId} {d : Nat} {st : List Value} {f : pz_F} {Q : Option Value → pz_F → Prop} {v0 v1 v2 : Value} : pz_R dA d 111 59 [v0, v1, v2] st f Q = pz_R dA d 111 60 [v0, v1, v2] (.int 0 :: st) f Q := pz_go (pz_so d111_59 rfl)
theorem d111_60 : decode (pz_b 111) 60 = .ok (.bastore, 1) := by decide +kernel
theorem q111_60z {dA : Nat → ClassId} {d : Nat} {st : List Value} {f : pz_F} {Q : Option Value → pz_F → Prop} {v0 v1 v2 : Value} {i : Int32} {a : Nat} : pz_R dA d 111 60 [v0, v1, v2] (.int 0 :: .int i :: .ref a :: st) f Q = pz_o (pz_is (dA 1) f a i 0) (fun f' => pz_R dA d 111 61 [v0, v1, v2] st f' Q) := pz_gzs d111_60 rfl
theorem q111_60o {dA : Nat → ClassId} {d : Nat} {st : List Value} {f : pz_F} {Q : Option Value → pz_F → Prop} {v0 v1 v2 : Value} {i : Int32} {a : Nat} : pz_R dA d 111 60 [v0, v1, v2] (.int 1 :: .int i :: .ref a :: st) f Q = pz_o (pz_is (dA 1) f a i 1) (fun f' => pz_R dA d 111 61 [v0, v1, v2] st f' Q) := pz_gzs d111_60 rfl
theorem d111_61 : decode (pz_b 111) 61 = .ok (.aload_n 0, 1) := by decide +kernel
theorem q111_61 {dA : Nat → ClassId} {d : Nat} {st : List Value} {f : pz_F} {Q : Option Value → pz_F → Prop} {v1 v2 : Value} {x : Nat} : pz_R dA d 111 61 [.ref x, v1, v2] st f Q = pz_R dA d 111 62 [.ref x, v1, v2] (.ref x :: st) f Q := pz_go (pz_so d111_61 rfl)
theorem d111_62 : decode (pz_b 111) 62 = .ok (.getfield 29, 3) := by decide +kernel
theorem q111_62 {dA : Nat → ClassId} {d : Nat} {st : List Value} {f : pz_F} {Q : Option Value → pz_F → Prop} {v0 v1 v2 : Value} {a : Nat} : pz_R dA d 111 62 [v0, v1, v2] (.ref a :: st) f Q = pz_o (pz_gf f a 6 7) (fun v => pz_R dA d 111 65 [v0, v1, v2] (v :: st) f Q) := pz_gg d111_62 rfl
theorem d111_65 : decode (pz_b 111) 65 = .ok (.iload_n 2, 1) := by decide +kernel
theorem q111_65 {dA : Nat → ClassId} {d : Nat} {st : List Value} {f : pz_F} {Q : Option Value → pz_F → Prop} {v0 v1 : Value} {x : Int32} : pz_R dA d 111 65 [v0, v1, .int x] st f Q = pz_R dA d 111 66 [v0, v1, .int x] (.int x :: st) f Q := pz_go (pz_so d111_65 rfl)
theorem d111_66 : decode (pz_b 111) 66 = .ok (.iaload, 1) := by decide +kernel
theorem q111_66 {dA : Nat → ClassId} {d : Nat} {st : List Value} {f : pz_F} {Q : Option Value → pz_F → Prop} {v0 v1 v2 : Value} {i : Int32} {a : Nat} : pz_R dA d 111 66 [v0, v1, v2] (.int i :: .ref a :: st) f Q = pz_o (pz_il (dA 0) f a i) (fun x => pz_R dA d 111 67 [v0, v1, v2] (.int x :: st) f Q) := pz_gil d111_66
theorem d111_67 : decode (pz_b 111) 67 = .ok (.iconst 1, 1) := by decide +kernel
theorem q111_67 {dA : Nat → ClassId} {d : Nat} {st : List Value} {f : pz_F} {Q : Option Value → pz_F → Prop} {v0 v1 v2 : Value} : pz_R dA d 111 67 [v0, v1, v2] st f Q = pz_R dA d 111 68 [v0, v1, v2] (.int 1 :: st) f Q := pz_go (pz_so d111_67 rfl)
theorem d111_68 : decode (pz_b 111) 68 = .ok (.if_icmp .ne 25, 3) := by decide +kernel
theorem q111_68 {dA : Nat → ClassId} {d : Nat} {st : List Value} {f : pz_F} {Q : Option Value → pz_F → Prop} {v0 v1 v2 : Value} {x y : Int32} : pz_R dA d 111 68 [v0, v1, v2] (.int y :: .int x :: st) f Q = (if x = y then pz_R dA d 111 71 [v0, v1, v2] st f Q else pz_R dA d 111 93 [v0, v1, v2] st f Q) := pz_gjn .ne d111_68 rfl
theorem d111_71 : decode (pz_b 111) 71 = .ok (.aload_n 0, 1) := by decide +kernel
theorem q111_71 {dA : Nat → ClassId} {d : Nat} {st : List Value} {f : pz_F} {Q : Option Value → pz_F → Prop} {v1 v2 : Value} {x : Nat} : pz_R dA d 111 71 [.ref x, v1, v2] st f Q = pz_R dA d 111 72 [.ref x, v1, v2] (.ref x :: st) f Q := pz_go (pz_so d111_71 rfl)
theorem d111_72 : decode (pz_b 111) 72 = .ok (.getfield 38, 3) := by decide +kernel
theorem q111_72 {dA : Nat → ClassId} {d : Nat} {st : List Value} {f : pz_F} {Q : Option Value → pz_F → Prop} {v0 v1 v2 : Value} {a : Nat} : pz_R dA d 111 72 [v0, v1, v2] (.ref a :: st) f Q = pz_o (pz_gf f a 6 10) (fun v => pz_R dA d 111 75 [v0, v1, v2] (v :: st) f Q) := pz_gg d111_72 rfl
theorem d111_75 : decode (pz_b 111) 75 = .ok (.iload_n 2, 1) := by decide +kernel
theorem q111_75 {dA : Nat → ClassId} {d : Nat} {st : List Value} {f : pz_F} {Q : Option Value → pz_F → Prop} {v0 v1 : Value} {x : Int32} : pz_R dA d 111 75 [v0, v1, .int x] st f Q = pz_R dA d 111 76 [v0, v1, .int x] (.int x :: st) f Q := pz_go (pz_so d111_75 rfl)
theorem d111_76 : decode (pz_b 111) 76 = .ok (.aload_n 0, 1) := by decide +kernel
theorem q111_76 {dA : Nat → ClassId} {d : Nat} {st : List Value} {f : pz_F} {Q : Option Value → pz_F → Prop} {v1 v2 : Value} {x : Nat} : pz_R dA d 111 76 [.ref x, v1, v2] st f Q = pz_R dA d 111 77 [.ref x, v1, v2] (.ref x :: st) f Q := pz_go (pz_so d111_76 rfl)
theorem d111_77 : decode (pz_b 111) 77 = .ok (.getfield 38, 3) := by decide +kernel
theorem q111_77 {dA : Nat → ClassId} {d : Nat} {st : List Value} {f : pz_F} {Q : Option Value → pz_F → Prop} {v0 v1 v2 : Value} {a : Nat} : pz_R dA d 111 77 [v0, v1, v2] (.ref a :: st) f Q = pz_o (pz_gf f a 6 10) (fun v => pz_R dA d 111 80 [v0, v1, v2] (v :: st) f Q) := pz_gg d111_77 rfl
theorem d111_80 : decode (pz_b 111) 80 = .ok (.iload_n 2, 1) := by decide +kernel
theorem q111_80 {dA : Nat → ClassId} {d : Nat} {st : List Value} {f : pz_F} {Q : Option Value → pz_F → Prop} {v0 v1 : Value} {x : Int32} : pz_R dA d 111 80 [v0, v1, .int x] st f Q = pz_R dA d 111 81 [v0, v1, .int x] (.int x :: st) f Q := pz_go (pz_so d111_80 rfl)
theorem d111_81 : decode (pz_b 111) 81 = .ok (.iaload, 1) := by decide +kernel
theorem q111_81 {dA : Nat → ClassId} {d : Nat} {st : List Value} {f : pz_F} {Q : Option Value → pz_F → Prop} {v0 v1 v2 : Value} {i : Int32} {a : Nat} : pz_R dA d 111 81 [v0, v1, v2] (.int i :: .ref a :: st) f Q = pz_o (pz_il (dA 0) f a i) (fun x => pz_R dA d 111 82 [v0, v1, v2] (.int x :: st) f Q) := pz_gil d111_81
theorem d111_82 : decode (pz_b 111) 82 = .ok (.aload_n 0, 1) := by decide +kernel
theorem q111_82 {dA : Nat → ClassId} {d : Nat} {st : List Value} {f : pz_F} {Q : Option Value → pz_F → Prop} {v1 v2 : Value} {x : Nat} : pz_R dA d 111 82 [.ref x, v1, v2] st f Q = pz_R dA d 111 83 [.ref x, v1, v2] (.ref x :: st) f Q := pz_go (pz_so d111_82 rfl)
theorem d111_83 : decode (pz_b 111) 83 = .ok (.getfield 72, 3) := by decide +kernel
theorem q111_83 {dA : Nat → ClassId} {d : Nat} {st : List Value} {f : pz_F} {Q : Option Value → pz_F → Prop} {v0 v1 v2 : Value} {a : Nat} : pz_R dA d 111 83 [v0, v1, v2] (.ref a :: st) f Q = pz_o (pz_gf f a 6 22) (fun v => pz_R dA d 111 86 [v0, v1, v2] (v :: st) f Q) := pz_gg d111_83 rfl
theorem d111_86 : decode (pz_b 111) 86 = .ok (.bipush 10, 2) := by decide +kernel
theorem q111_86 {dA : Nat → ClassId} {d : Nat} {st : List Value} {f : pz_F} {Q : Option Value → pz_F → Prop} {v0 v1 v2 : Value} : pz_R dA d 111 86 [v0, v1, v2] st f Q = pz_R dA d 111 88 [v0, v1, v2] (.int 10 :: st) f Q := pz_go (pz_so d111_86 rfl)
theorem d111_88 : decode (pz_b 111) 88 = .ok (.iaload, 1) := by decide +kernel
theorem q111_88 {dA : Nat → ClassId} {d : Nat} {st : List Value} {f : pz_F} {Q : Option Value → pz_F → Prop} {v0 v1 v2 : Value} {i : Int32} {a : Nat} : pz_R dA d 111 88 [v0, v1, v2] (.int i :: .ref a :: st) f Q = pz_o (pz_il (dA 0) f a i) (fun x => pz_R dA d 111 89 [v0, v1, v2] (.int x :: st) f Q) := pz_gil d111_88
theorem d111_89 : decode (pz_b 111) 89 = .ok (.invokestatic 107, 3) := by decide +kernel
theorem q111_89 {dA : Nat → ClassId} {d : Nat} {st : List Value} {f : pz_F} {Q : Option Value → pz_F → Prop} {v0 v1 v2 : Value} {c0 : Int32} {c1 : Int32} (hr : st.length ≤ 4) : pz_R dA (d + 1) 111 89 [v0, v1, v2] (.int c1 :: .int c0 :: st) f Q = pz_C dA d 92 [.int c0, .int c1] f (fun r f' => pz_R dA (d + 1) 111 92 [v0, v1, v2] (r.toList ++ st) f' Q) := pz_gcs (As := [.int c0, .int c1]) d111_89 rfl rfl rfl hr
theorem d111_92 : decode (pz_b 111) 92 = .ok (.iastore, 1) := by decide +kernel
theorem q111_92 {dA : Nat → ClassId} {d : Nat} {st : List Value} {f : pz_F} {Q : Option Value → pz_F → Prop} {v0 v1 v2 : Value} {x i : Int32} {a : Nat} : pz_R dA d 111 92 [v0, v1, v2] (.int x :: .int i :: .ref a :: st) f Q = pz_o (pz_is (dA 0) f a i x) (fun f' => pz_R dA d 111 93 [v0, v1, v2] st f' Q) := pz_gis d111_92
theorem d111_93 : decode (pz_b 111) 93 = .ok (.aload_n 0, 1) := by decide +kernel
theorem q111_93 {dA : Nat → ClassId} {d : Nat} {st : List Value} {f : pz_F} {Q : Option Value → pz_F → Prop} {v1 v2 : Value} {x : Nat} : pz_R dA d 111 93 [.ref x, v1, v2] st f Q = pz_R dA d 111 94 [.ref x, v1, v2] (.ref x :: st) f Q := pz_go (pz_so d111_93 rfl)
theorem d111_94 : decode (pz_b 111) 94 = .ok (.getfield 29, 3) := by decide +kernel
theorem q111_94 {dA : Nat → ClassId} {d : Nat} {st : List Value} {f : pz_F} {Q : Option Value → pz_F → Prop} {v0 v1 v2 : Value} {a : Nat} : pz_R dA d 111 94 [v0, v1, v2] (.ref a :: st) f Q = pz_o (pz_gf f a 6 7) (fun v => pz_R dA d 111 97 [v0, v1, v2] (v :: st) f Q) := pz_gg d111_94 rfl
theorem d111_97 : decode (pz_b 111) 97 = .ok (.iload_n 2, 1) := by decide +kernel
theorem q111_97 {dA : Nat → ClassId} {d : Nat} {st : List Value} {f : pz_F} {Q : Option Value → pz_F → Prop} {v0 v1 : Value} {x : Int32} : pz_R dA d 111 97 [v0, v1, .int x] st f Q = pz_R dA d 111 98 [v0, v1, .int x] (.int x :: st) f Q := pz_go (pz_so d111_97 rfl)
theorem d111_98 : decode (pz_b 111) 98 = .ok (.iaload, 1) := by decide +kernel
theorem q111_98 {dA : Nat → ClassId} {d : Nat} {st : List Value} {f : pz_F} {Q : Option Value → pz_F → Prop} {v0 v1 v2 : Value} {i : Int32} {a : Nat} : pz_R dA d 111 98 [v0, v1, v2] (.int i :: .ref a :: st) f Q = pz_o (pz_il (dA 0) f a i) (fun x => pz_R dA d 111 99 [v0, v1, v2] (.int x :: st) f Q) := pz_gil d111_98
theorem d111_99 : decode (pz_b 111) 99 = .ok (.iconst 2, 1) := by decide +kernel
theorem q111_99 {dA : Nat → ClassId} {d : Nat} {st : List Value} {f : pz_F} {Q : Option Value → pz_F → Prop} {v0 v1 v2 : Value} : pz_R dA d 111 99 [v0, v1, v2] st f Q = pz_R dA d 111 100 [v0, v1, v2] (.int 2 :: st) f Q := pz_go (pz_so d111_99 rfl)
theorem d111_100 : decode (pz_b 111) 100 = .ok (.if_icmp .ne 8, 3) := by decide +kernel
theorem q111_100 {dA : Nat → ClassId} {d : Nat} {st : List Value} {f : pz_F} {Q : Option Value → pz_F → Prop} {v0 v1 v2 : Value} {x y : Int32} : pz_R dA d 111 100 [v0, v1, v2] (.int y :: .int x :: st) f Q = (if x = y then pz_R dA d 111 103 [v0, v1, v2] st f Q else pz_R dA d 111 108 [v0, v1, v2] st f Q) := pz_gjn .ne d111_100 rfl
theorem d111_103 : decode (pz_b 111) 103 = .ok (.aload_n 0, 1) := by decide +kernel
theorem q111_103 {dA : Nat → ClassId} {d : Nat} {st : List Value} {f : pz_F} {Q : Option Value → pz_F → Prop} {v1 v2 : Value} {x : Nat} : pz_R dA d 111 103 [.ref x, v1, v2] st f Q = pz_R dA d 111 104 [.ref x, v1, v2] (.ref x :: st) f Q := pz_go (pz_so d111_103 rfl)
theorem d111_104 : decode (pz_b 111) 104 = .ok (.iload_n 2, 1) := by decide +kernel
theorem q111_104 {dA : Nat → ClassId} {d : Nat} {st : List Value} {f : pz_F} {Q : Option Value → pz_F → Prop} {v0 v1 : Value} {x : Int32} : pz_R dA d 111 104 [v0, v1, .int x] st f Q = pz_R dA d 111 105 [v0, v1, .int x] (.int x :: st) f Q := pz_go (pz_so d111_104 rfl)
theorem d111_105 : decode (pz_b 111) 105 = .ok (.invokevirtual 117, 3) := by decide +kernel
theorem q111_105 {dA : Nat → ClassId} {d : Nat} {st : List Value} {f : pz_F} {Q : Option Value → pz_F → Prop} {v0 v1 v2 : Value} {c0 : Int32} {b : Nat} (hr : st.length ≤ 4) : pz_R dA (d + 1) 111 105 [v0, v1, v2] (.int c0 :: .ref b :: st) f Q = pz_o (pz_gu f b 6) (fun _ => pz_C dA d 98 [.ref b, .int c0] f (fun r f' => pz_R dA (d + 1) 111 108 [v0, v1, v2] (r.toList ++ st) f' Q)) := pz_gcv (As := [.int c0]) d111_105 rfl rfl rfl hr
theorem d111_108 : decode (pz_b 111) 108 = .ok (.return_, 1) := by decide +kernel
theorem q111_108 {dA : Nat → ClassId} {d : Nat} {f : pz_F} {Q : Option Value → pz_F → Prop} {v0 v1 v2 : Value} : pz_R dA d 111 108 [v0, v1, v2] [] f Q = Q none f := pz_gr (pz_so d111_108 rfl)
/-! X_demanded (I)V -/
theorem e112 {dA : Nat → ClassId} {d : Nat} {f : pz_F} {Q : Option Value → pz_F → Prop} {a0 : Nat} {a1 : Int32} : pz_C dA d 112 [.ref a0, .int a1] f Q = pz_R dA d 112 0 [.ref a0, .int a1, .retAddr 0] [] f Q := rfl
theorem d112_0 : decode (pz_b 112) 0 = .ok (.aload_n 0, 1) := by decide +kernel
theorem q112_0 {dA : Nat → ClassId} {d : Nat} {st : List Value} {f : pz_F} {Q : Option Value → pz_F → Prop} {v1 v2 : Value} {x : Nat} : pz_R dA d 112 0 [.ref x, v1, v2] st f Q = pz_R dA d 112 1 [.ref x, v1, v2] (.ref x :: st) f Q := pz_go (pz_so d112_0 rfl)
theorem d112_1 : decode (pz_b 112) 1 = .ok (.getfield 23, 3) := by decide +kernel
theorem q112_1 {dA : Nat → ClassId} {d : Nat} {st : List Value} {f : pz_F} {Q : Option Value → pz_F → Prop} {v0 v1 v2 : Value} {a : Nat} : pz_R dA d 112 1 [v0, v1, v2] (.ref a :: st) f Q = pz_o (pz_gf f a 6 5) (fun v => pz_R dA d 112 4 [v0, v1, v2] (v :: st) f Q) := pz_gg d112_1 rfl
theorem d112_4 : decode (pz_b 112) 4 = .ok (.iload_n 1, 1) := by decide +kernel
theorem q112_4 {dA : Nat → ClassId} {d : Nat} {st : List Value} {f : pz_F} {Q : Option Value → pz_F → Prop} {v0 v2 : Value} {x : Int32} : pz_R dA d 112 4 [v0, .int x, v2] st f Q = pz_R dA d 112 5 [v0, .int x, v2] (.int x :: st) f Q := pz_go (pz_so d112_4 rfl)
theorem d112_5 : decode (pz_b 112) 5 = .ok (.aload_n 0, 1) := by decide +kernel
theorem q112_5 {dA : Nat → ClassId} {d : Nat} {st : List Value} {f : pz_F} {Q : Option Value → pz_F → Prop} {v1 v2 : Value} {x : Nat} : pz_R dA d 112 5 [.ref x, v1, v2] st f Q = pz_R dA d 112 6 [.ref x, v1, v2] (.ref x :: st) f Q := pz_go (pz_so d112_5 rfl)
theorem d112_6 : decode (pz_b 112) 6 = .ok (.getfield 72, 3) := by decide +kernel
theorem q112_6 {dA : Nat → ClassId} {d : Nat} {st : List Value} {f : pz_F} {Q : Option Value → pz_F → Prop} {v0 v1 v2 : Value} {a : Nat} : pz_R dA d 112 6 [v0, v1, v2] (.ref a :: st) f Q = pz_o (pz_gf f a 6 22) (fun v => pz_R dA d 112 9 [v0, v1, v2] (v :: st) f Q) := pz_gg d112_6 rfl
theorem d112_9 : decode (pz_b 112) 9 = .ok (.bipush 11, 2) := by decide +kernel
theorem q112_9 {dA : Nat → ClassId} {d : Nat} {st : List Value} {f : pz_F} {Q : Option Value → pz_F → Prop} {v0 v1 v2 : Value} : pz_R dA d 112 9 [v0, v1, v2] st f Q = pz_R dA d 112 11 [v0, v1, v2] (.int 11 :: st) f Q := pz_go (pz_so d112_9 rfl)
theorem d112_11 : decode (pz_b 112) 11 = .ok (.iaload, 1) := by decide +kernel
theorem q112_11 {dA : Nat → ClassId} {d : Nat} {st : List Value} {f : pz_F} {Q : Option Value → pz_F → Prop} {v0 v1 v2 : Value} {i : Int32} {a : Nat} : pz_R dA d 112 11 [v0, v1, v2] (.int i :: .ref a :: st) f Q = pz_o (pz_il (dA 0) f a i) (fun x => pz_R dA d 112 12 [v0, v1, v2] (.int x :: st) f Q) := pz_gil d112_11
theorem d112_12 : decode (pz_b 112) 12 = .ok (.iastore, 1) := by decide +kernel
theorem q112_12 {dA : Nat → ClassId} {d : Nat} {st : List Value} {f : pz_F} {Q : Option Value → pz_F → Prop} {v0 v1 v2 : Value} {x i : Int32} {a : Nat} : pz_R dA d 112 12 [v0, v1, v2] (.int x :: .int i :: .ref a :: st) f Q = pz_o (pz_is (dA 0) f a i x) (fun f' => pz_R dA d 112 13 [v0, v1, v2] st f' Q) := pz_gis d112_12
theorem d112_13 : decode (pz_b 112) 13 = .ok (.iconst 0, 1) := by decide +kernel
theorem q112_13 {dA : Nat → ClassId} {d : Nat} {st : List Value} {f : pz_F} {Q : Option Value → pz_F → Prop} {v0 v1 v2 : Value} : pz_R dA d 112 13 [v0, v1, v2] st f Q = pz_R dA d 112 14 [v0, v1, v2] (.int 0 :: st) f Q := pz_go (pz_so d112_13 rfl)
theorem d112_14 : decode (pz_b 112) 14 = .ok (.istore_n 2, 1) := by decide +kernel
theorem q112_14 {dA : Nat → ClassId} {d : Nat} {st : List Value} {f : pz_F} {Q : Option Value → pz_F → Prop} {v0 v1 v2 : Value} {x : Int32} : pz_R dA d 112 14 [v0, v1, v2] (.int x :: st) f Q = pz_R dA d 112 15 [v0, v1, .int x] st f Q := pz_go (pz_so d112_14 rfl)
theorem d112_15 : decode (pz_b 112) 15 = .ok (.iload_n 2, 1) := by decide +kernel
theorem q112_15 {dA : Nat → ClassId} {d : Nat} {st : List Value} {f : pz_F} {Q : Option Value → pz_F → Prop} {v0 v1 : Value} {x : Int32} : pz_R dA d 112 15 [v0, v1, .int x] st f Q = pz_R dA d 112 16 [v0, v1, .int x] (.int x :: st) f Q := pz_go (pz_so d112_15 rfl)
theorem d112_16 : decode (pz_b 112) 16 = .ok (.bipush 6, 2) := by decide +kernel
theorem q112_16 {dA : Nat → ClassId} {d : Nat} {st : List Value} {f : pz_F} {Q : Option Value → pz_F → Prop} {v0 v1 v2 : Value} : pz_R dA d 112 16 [v0, v1, v2] st f Q = pz_R dA d 112 18 [v0, v1, v2] (.int 6 :: st) f Q := pz_go (pz_so d112_16 rfl)
theorem d112_18 : decode (pz_b 112) 18 = .ok (.if_icmp .ge 53, 3) := by decide +kernel
theorem q112_18 {dA : Nat → ClassId} {d : Nat} {st : List Value} {f : pz_F} {Q : Option Value → pz_F → Prop} {v0 v1 v2 : Value} {x y : Int32} : pz_R dA d 112 18 [v0, v1, v2] (.int y :: .int x :: st) f Q = (if y ≤ x then pz_R dA d 112 71 [v0, v1, v2] st f Q else pz_R dA d 112 21 [v0, v1, v2] st f Q) := pz_gjn .ge d112_18 rfl
theorem d112_21 : decode (pz_b 112) 21 = .ok (.aload_n 0, 1) := by decide +kernel
theorem q112_21 {dA : Nat → ClassId} {d : Nat} {st : List Value} {f : pz_F} {Q : Option Value → pz_F → Prop} {v1 v2 : Value} {x : Nat} : pz_R dA d 112 21 [.ref x, v1, v2] st f Q = pz_R dA d 112 22 [.ref x, v1, v2] (.ref x :: st) f Q := pz_go (pz_so d112_21 rfl)
theorem d112_22 : decode (pz_b 112) 22 = .ok (.getfield 50, 3) := by decide +kernel
theorem q112_22 {dA : Nat → ClassId} {d : Nat} {st : List Value} {f : pz_F} {Q : Option Value → pz_F → Prop} {v0 v1 v2 : Value} {a : Nat} : pz_R dA d 112 22 [v0, v1, v2] (.ref a :: st) f Q = pz_o (pz_gf f a 6 14) (fun v => pz_R dA d 112 25 [v0, v1, v2] (v :: st) f Q) := pz_gg d112_22 rfl
theorem d112_25 : decode (pz_b 112) 25 = .ok (.bipush 6, 2) := by decide +kernel
theorem q112_25 {dA : Nat → ClassId} {d : Nat} {st : List Value} {f : pz_F} {Q : Option Value → pz_F → Prop} {v0 v1 v2 : Value} : pz_R dA d 112 25 [v0, v1, v2] st f Q = pz_R dA d 112 27 [v0, v1, v2] (.int 6 :: st) f Q := pz_go (pz_so d112_25 rfl)
theorem d112_27 : decode (pz_b 112) 27 = .ok (.iload_n 1, 1) := by decide +kernel
theorem q112_27 {dA : Nat → ClassId} {d : Nat} {st : List Value} {f : pz_F} {Q : Option Value → pz_F → Prop} {v0 v2 : Value} {x : Int32} : pz_R dA d 112 27 [v0, .int x, v2] st f Q = pz_R dA d 112 28 [v0, .int x, v2] (.int x :: st) f Q := pz_go (pz_so d112_27 rfl)
theorem d112_28 : decode (pz_b 112) 28 = .ok (.imul, 1) := by decide +kernel
theorem q112_28 {dA : Nat → ClassId} {d : Nat} {st : List Value} {f : pz_F} {Q : Option Value → pz_F → Prop} {v0 v1 v2 : Value} {x y : Int32} : pz_R dA d 112 28 [v0, v1, v2] (.int y :: .int x :: st) f Q = pz_R dA d 112 29 [v0, v1, v2] (.int (x * y) :: st) f Q := pz_go (pz_so d112_28 rfl)
theorem d112_29 : decode (pz_b 112) 29 = .ok (.iload_n 2, 1) := by decide +kernel
theorem q112_29 {dA : Nat → ClassId} {d : Nat} {st : List Value} {f : pz_F} {Q : Option Value → pz_F → Prop} {v0 v1 : Value} {x : Int32} : pz_R dA d 112 29 [v0, v1, .int x] st f Q = pz_R dA d 112 30 [v0, v1, .int x] (.int x :: st) f Q := pz_go (pz_so d112_29 rfl)
theorem d112_30 : decode (pz_b 112) 30 = .ok (.iadd, 1) := by decide +kernel
theorem q112_30 {dA : Nat → ClassId} {d : Nat} {st : List Value} {f : pz_F} {Q : Option Value → pz_F → Prop} {v0 v1 v2 : Value} {x y : Int32} : pz_R dA d 112 30 [v0, v1, v2] (.int y :: .int x :: st) f Q = pz_R dA d 112 31 [v0, v1, v2] (.int (x + y) :: st) f Q := pz_go (pz_so d112_30 rfl)
theorem d112_31 : decode (pz_b 112) 31 = .ok (.aload_n 0, 1) := by decide +kernel
theorem q112_31 {dA : Nat → ClassId} {d : Nat} {st : List Value} {f : pz_F} {Q : Option Value → pz_F → Prop} {v1 v2 : Value} {x : Nat} : pz_R dA d 112 31 [.ref x, v1, v2] st f Q = pz_R dA d 112 32 [.ref x, v1, v2] (.ref x :: st) f Q := pz_go (pz_so d112_31 rfl)
theorem d112_32 : decode (pz_b 112) 32 = .ok (.getfield 50, 3) := by decide +kernel
theorem q112_32 {dA : Nat → ClassId} {d : Nat} {st : List Value} {f : pz_F} {Q : Option Value → pz_F → Prop} {v0 v1 v2 : Value} {a : Nat} : pz_R dA d 112 32 [v0, v1, v2] (.ref a :: st) f Q = pz_o (pz_gf f a 6 14) (fun v => pz_R dA d 112 35 [v0, v1, v2] (v :: st) f Q) := pz_gg d112_32 rfl
theorem d112_35 : decode (pz_b 112) 35 = .ok (.bipush 6, 2) := by decide +kernel
theorem q112_35 {dA : Nat → ClassId} {d : Nat} {st : List Value} {f : pz_F} {Q : Option Value → pz_F → Prop} {v0 v1 v2 : Value} : pz_R dA d 112 35 [v0, v1, v2] st f Q = pz_R dA d 112 37 [v0, v1, v2] (.int 6 :: st) f Q := pz_go (pz_so d112_35 rfl)
theorem d112_37 : decode (pz_b 112) 37 = .ok (.iload_n 1, 1) := by decide +kernel
theorem q112_37 {dA : Nat → ClassId} {d : Nat} {st : List Value} {f : pz_F} {Q : Option Value → pz_F → Prop} {v0 v2 : Value} {x : Int32} : pz_R dA d 112 37 [v0, .int x, v2] st f Q = pz_R dA d 112 38 [v0, .int x, v2] (.int x :: st) f Q := pz_go (pz_so d112_37 rfl)
theorem d112_38 : decode (pz_b 112) 38 = .ok (.imul, 1) := by decide +kernel
theorem q112_38 {dA : Nat → ClassId} {d : Nat} {st : List Value} {f : pz_F} {Q : Option Value → pz_F → Prop} {v0 v1 v2 : Value} {x y : Int32} : pz_R dA d 112 38 [v0, v1, v2] (.int y :: .int x :: st) f Q = pz_R dA d 112 39 [v0, v1, v2] (.int (x * y) :: st) f Q := pz_go (pz_so d112_38 rfl)
theorem d112_39 : decode (pz_b 112) 39 = .ok (.iload_n 2, 1) := by decide +kernel
theorem q112_39 {dA : Nat → ClassId} {d : Nat} {st : List Value} {f : pz_F} {Q : Option Value → pz_F → Prop} {v0 v1 : Value} {x : Int32} : pz_R dA d 112 39 [v0, v1, .int x] st f Q = pz_R dA d 112 40 [v0, v1, .int x] (.int x :: st) f Q := pz_go (pz_so d112_39 rfl)
theorem d112_40 : decode (pz_b 112) 40 = .ok (.iadd, 1) := by decide +kernel
theorem q112_40 {dA : Nat → ClassId} {d : Nat} {st : List Value} {f : pz_F} {Q : Option Value → pz_F → Prop} {v0 v1 v2 : Value} {x y : Int32} : pz_R dA d 112 40 [v0, v1, v2] (.int y :: .int x :: st) f Q = pz_R dA d 112 41 [v0, v1, v2] (.int (x + y) :: st) f Q := pz_go (pz_so d112_40 rfl)
theorem d112_41 : decode (pz_b 112) 41 = .ok (.baload, 1) := by decide +kernel
theorem q112_41 {dA : Nat → ClassId} {d : Nat} {st : List Value} {f : pz_F} {Q : Option Value → pz_F → Prop} {v0 v1 v2 : Value} {i : Int32} {a : Nat} : pz_R dA d 112 41 [v0, v1, v2] (.int i :: .ref a :: st) f Q = pz_o (pz_il (dA 1) f a i) (fun x => pz_R dA d 112 42 [v0, v1, v2] (.int x :: st) f Q) := pz_gzl d112_41
theorem d112_42 : decode (pz_b 112) 42 = .ok (.ifCond .ne 17, 3) := by decide +kernel
theorem q112_42 {dA : Nat → ClassId} {d : Nat} {st : List Value} {f : pz_F} {Q : Option Value → pz_F → Prop} {v0 v1 v2 : Value} {x : Int32} : pz_R dA d 112 42 [v0, v1, v2] (.int x :: st) f Q = (if x = 0 then pz_R dA d 112 45 [v0, v1, v2] st f Q else pz_R dA d 112 59 [v0, v1, v2] st f Q) := pz_gj1 .ne d112_42 rfl
theorem d112_45 : decode (pz_b 112) 45 = .ok (.aload_n 0, 1) := by decide +kernel
theorem q112_45 {dA : Nat → ClassId} {d : Nat} {st : List Value} {f : pz_F} {Q : Option Value → pz_F → Prop} {v1 v2 : Value} {x : Nat} : pz_R dA d 112 45 [.ref x, v1, v2] st f Q = pz_R dA d 112 46 [.ref x, v1, v2] (.ref x :: st) f Q := pz_go (pz_so d112_45 rfl)
theorem d112_46 : decode (pz_b 112) 46 = .ok (.getfield 72, 3) := by decide +kernel
theorem q112_46 {dA : Nat → ClassId} {d : Nat} {st : List Value} {f : pz_F} {Q : Option Value → pz_F → Prop} {v0 v1 v2 : Value} {a : Nat} : pz_R dA d 112 46 [v0, v1, v2] (.ref a :: st) f Q = pz_o (pz_gf f a 6 22) (fun v => pz_R dA d 112 49 [v0, v1, v2] (v :: st) f Q) := pz_gg d112_46 rfl
theorem d112_49 : decode (pz_b 112) 49 = .ok (.iconst 3, 1) := by decide +kernel
theorem q112_49 {dA : Nat → ClassId} {d : Nat} {st : List Value} {f : pz_F} {Q : Option Value → pz_F → Prop} {v0 v1 v2 : Value} : pz_R dA d 112 49 [v0, v1, v2] st f Q = pz_R dA d 112 50 [v0, v1, v2] (.int 3 :: st) f Q := pz_go (pz_so d112_49 rfl)
theorem d112_50 : decode (pz_b 112) 50 = .ok (.iaload, 1) := by decide +kernel
theorem q112_50 {dA : Nat → ClassId} {d : Nat} {st : List Value} {f : pz_F} {Q : Option Value → pz_F → Prop} {v0 v1 v2 : Value} {i : Int32} {a : Nat} : pz_R dA d 112 50 [v0, v1, v2] (.int i :: .ref a :: st) f Q = pz_o (pz_il (dA 0) f a i) (fun x => pz_R dA d 112 51 [v0, v1, v2] (.int x :: st) f Q) := pz_gil d112_50
theorem d112_51 : decode (pz_b 112) 51 = .ok (.iload_n 2, 1) := by decide +kernel
theorem q112_51 {dA : Nat → ClassId} {d : Nat} {st : List Value} {f : pz_F} {Q : Option Value → pz_F → Prop} {v0 v1 : Value} {x : Int32} : pz_R dA d 112 51 [v0, v1, .int x] st f Q = pz_R dA d 112 52 [v0, v1, .int x] (.int x :: st) f Q := pz_go (pz_so d112_51 rfl)
theorem d112_52 : decode (pz_b 112) 52 = .ok (.ishr, 1) := by decide +kernel
theorem q112_52 {dA : Nat → ClassId} {d : Nat} {st : List Value} {f : pz_F} {Q : Option Value → pz_F → Prop} {v0 v1 v2 : Value} {x y : Int32} : pz_R dA d 112 52 [v0, v1, v2] (.int y :: .int x :: st) f Q = pz_R dA d 112 53 [v0, v1, v2] (.int (x >>> (y &&& 31)) :: st) f Q := pz_go (pz_so d112_52 rfl)
theorem d112_53 : decode (pz_b 112) 53 = .ok (.iconst 1, 1) := by decide +kernel
theorem q112_53 {dA : Nat → ClassId} {d : Nat} {st : List Value} {f : pz_F} {Q : Option Value → pz_F → Prop} {v0 v1 v2 : Value} : pz_R dA d 112 53 [v0, v1, v2] st f Q = pz_R dA d 112 54 [v0, v1, v2] (.int 1 :: st) f Q := pz_go (pz_so d112_53 rfl)
theorem d112_54 : decode (pz_b 112) 54 = .ok (.iand, 1) := by decide +kernel
theorem q112_54 {dA : Nat → ClassId} {d : Nat} {st : List Value} {f : pz_F} {Q : Option Value → pz_F → Prop} {v0 v1 v2 : Value} {x y : Int32} : pz_R dA d 112 54 [v0, v1, v2] (.int y :: .int x :: st) f Q = pz_R dA d 112 55 [v0, v1, v2] (.int (x &&& y) :: st) f Q := pz_go (pz_so d112_54 rfl)
theorem d112_55 : decode (pz_b 112) 55 = .ok (.iconst 1, 1) := by decide +kernel
theorem q112_55 {dA : Nat → ClassId} {d : Nat} {st : List Value} {f : pz_F} {Q : Option Value → pz_F → Prop} {v0 v1 v2 : Value} : pz_R dA d 112 55 [v0, v1, v2] st f Q = pz_R dA d 112 56 [v0, v1, v2] (.int 1 :: st) f Q := pz_go (pz_so d112_55 rfl)
theorem d112_56 : decode (pz_b 112) 56 = .ok (.if_icmp .ne 7, 3) := by decide +kernel
theorem q112_56 {dA : Nat → ClassId} {d : Nat} {st : List Value} {f : pz_F} {Q : Option Value → pz_F → Prop} {v0 v1 v2 : Value} {x y : Int32} : pz_R dA d 112 56 [v0, v1, v2] (.int y :: .int x :: st) f Q = (if x = y then pz_R dA d 112 59 [v0, v1, v2] st f Q else pz_R dA d 112 63 [v0, v1, v2] st f Q) := pz_gjn .ne d112_56 rfl
theorem d112_59 : decode (pz_b 112) 59 = .ok (.iconst 1, 1) := by decide +kernel
theorem q112_59 {dA : Nat → ClassId} {d : Nat} {st : List Value} {f : pz_F} {Q : Option Value → pz_F → Prop} {v0 v1 v2 : Value} : pz_R dA d 112 59 [v0, v1, v2] st f Q = pz_R dA d 112 60 [v0, v1, v2] (.int 1 :: st) f Q := pz_go (pz_so d112_59 rfl)
theorem d112_60 : decode (pz_b 112) 60 = .ok (.goto 4, 3) := by decide +kernel
theorem q112_60 {dA : Nat → ClassId} {d : Nat} {st : List Value} {f : pz_F} {Q : Option Value → pz_F → Prop} {v0 v1 v2 : Value} : pz_R dA d 112 60 [v0, v1, v2] st f Q = pz_R dA d 112 64 [v0, v1, v2] st f Q := pz_go (pz_so d112_60 rfl)
theorem d112_63 : decode (pz_b 112) 63 = .ok (.iconst 0, 1) := by decide +kernel
theorem q112_63 {dA : Nat → ClassId} {d : Nat} {st : List Value} {f : pz_F} {Q : Option Value → pz_F → Prop} {v0 v1 v2 : Value} : pz_R dA d 112 63 [v0, v1, v2] st f Q = pz_R dA d 112 64 [v0, v1, v2] (.int 0 :: st) f Q := pz_go (pz_so d112_63 rfl)
theorem d112_64 : decode (pz_b 112) 64 = .ok (.bastore, 1) := by decide +kernel
theorem q112_64z {dA : Nat → ClassId} {d : Nat} {st : List Value} {f : pz_F} {Q : Option Value → pz_F → Prop} {v0 v1 v2 : Value} {i : Int32} {a : Nat} : pz_R dA d 112 64 [v0, v1, v2] (.int 0 :: .int i :: .ref a :: st) f Q = pz_o (pz_is (dA 1) f a i 0) (fun f' => pz_R dA d 112 65 [v0, v1, v2] st f' Q) := pz_gzs d112_64 rfl
theorem q112_64o {dA : Nat → ClassId} {d : Nat} {st : List Value} {f : pz_F} {Q : Option Value → pz_F → Prop} {v0 v1 v2 : Value} {i : Int32} {a : Nat} : pz_R dA d 112 64 [v0, v1, v2] (.int 1 :: .int i :: .ref a :: st) f Q = pz_o (pz_is (dA 1) f a i 1) (fun f' => pz_R dA d 112 65 [v0, v1, v2] st f' Q) := pz_gzs d112_64 rfl
theorem d112_65 : decode (pz_b 112) 65 = .ok (.iinc 2 1, 3) := by decide +kernel
theorem q112_65 {dA : Nat → ClassId} {d : Nat} {st : List Value} {f : pz_F} {Q : Option Value → pz_F → Prop} {v0 v1 : Value} {x : Int32} : pz_R dA d 112 65 [v0, v1, .int x] st f Q = pz_R dA d 112 68 [v0, v1, .int (x + 1)] st f Q := pz_go (pz_so d112_65 rfl)
theorem d112_68 : decode (pz_b 112) 68 = .ok (.goto (-53), 3) := by decide +kernel
theorem q112_68 {dA : Nat → ClassId} {d : Nat} {st : List Value} {f : pz_F} {Q : Option Value → pz_F → Prop} {v0 v1 v2 : Value} : pz_R dA d 112 68 [v0, v1, v2] st f Q = pz_R dA d 112 15 [v0, v1, v2] st f Q := pz_go (pz_so d112_68 rfl)
theorem d112_71 : decode (pz_b 112) 71 = .ok (.aload_n 0, 1) := by decide +kernel
theorem q112_71 {dA : Nat → ClassId} {d : Nat} {st : List Value} {f : pz_F} {Q : Option Value → pz_F → Prop} {v1 v2 : Value} {x : Nat} : pz_R dA d 112 71 [.ref x, v1, v2] st f Q = pz_R dA d 112 72 [.ref x, v1, v2] (.ref x :: st) f Q := pz_go (pz_so d112_71 rfl)
theorem d112_72 : decode (pz_b 112) 72 = .ok (.getfield 13, 3) := by decide +kernel
theorem q112_72 {dA : Nat → ClassId} {d : Nat} {st : List Value} {f : pz_F} {Q : Option Value → pz_F → Prop} {v0 v1 v2 : Value} {a : Nat} : pz_R dA d 112 72 [v0, v1, v2] (.ref a :: st) f Q = pz_o (pz_gf f a 6 2) (fun v => pz_R dA d 112 75 [v0, v1, v2] (v :: st) f Q) := pz_gg d112_72 rfl
theorem d112_75 : decode (pz_b 112) 75 = .ok (.iload_n 1, 1) := by decide +kernel
theorem q112_75 {dA : Nat → ClassId} {d : Nat} {st : List Value} {f : pz_F} {Q : Option Value → pz_F → Prop} {v0 v2 : Value} {x : Int32} : pz_R dA d 112 75 [v0, .int x, v2] st f Q = pz_R dA d 112 76 [v0, .int x, v2] (.int x :: st) f Q := pz_go (pz_so d112_75 rfl)
theorem d112_76 : decode (pz_b 112) 76 = .ok (.iaload, 1) := by decide +kernel
theorem q112_76 {dA : Nat → ClassId} {d : Nat} {st : List Value} {f : pz_F} {Q : Option Value → pz_F → Prop} {v0 v1 v2 : Value} {i : Int32} {a : Nat} : pz_R dA d 112 76 [v0, v1, v2] (.int i :: .ref a :: st) f Q = pz_o (pz_il (dA 0) f a i) (fun x => pz_R dA d 112 77 [v0, v1, v2] (.int x :: st) f Q) := pz_gil d112_76
theorem d112_77 : decode (pz_b 112) 77 = .ok (.iconst 3, 1) := by decide +kernel
theorem q112_77 {dA : Nat → ClassId} {d : Nat} {st : List Value} {f : pz_F} {Q : Option Value → pz_F → Prop} {v0 v1 v2 : Value} : pz_R dA d 112 77 [v0, v1, v2] st f Q = pz_R dA d 112 78 [v0, v1, v2] (.int 3 :: st) f Q := pz_go (pz_so d112_77 rfl)
theorem d112_78 : decode (pz_b 112) 78 = .ok (.if_icmp .ne 10, 3) := by decide +kernel
theorem q112_78 {dA : Nat → ClassId} {d : Nat} {st : List Value} {f : pz_F} {Q : Option Value → pz_F → Prop} {v0 v1 v2 : Value} {x y : Int32} : pz_R dA d 112 78 [v0, v1, v2] (.int y :: .int x :: st) f Q = (if x = y then pz_R dA d 112 81 [v0, v1, v2] st f Q else pz_R dA d 112 88 [v0, v1, v2] st f Q) := pz_gjn .ne d112_78 rfl
theorem d112_81 : decode (pz_b 112) 81 = .ok (.aload_n 0, 1) := by decide +kernel
theorem q112_81 {dA : Nat → ClassId} {d : Nat} {st : List Value} {f : pz_F} {Q : Option Value → pz_F → Prop} {v1 v2 : Value} {x : Nat} : pz_R dA d 112 81 [.ref x, v1, v2] st f Q = pz_R dA d 112 82 [.ref x, v1, v2] (.ref x :: st) f Q := pz_go (pz_so d112_81 rfl)
theorem d112_82 : decode (pz_b 112) 82 = .ok (.getfield 13, 3) := by decide +kernel
theorem q112_82 {dA : Nat → ClassId} {d : Nat} {st : List Value} {f : pz_F} {Q : Option Value → pz_F → Prop} {v0 v1 v2 : Value} {a : Nat} : pz_R dA d 112 82 [v0, v1, v2] (.ref a :: st) f Q = pz_o (pz_gf f a 6 2) (fun v => pz_R dA d 112 85 [v0, v1, v2] (v :: st) f Q) := pz_gg d112_82 rfl
theorem d112_85 : decode (pz_b 112) 85 = .ok (.iload_n 1, 1) := by decide +kernel
theorem q112_85 {dA : Nat → ClassId} {d : Nat} {st : List Value} {f : pz_F} {Q : Option Value → pz_F → Prop} {v0 v2 : Value} {x : Int32} : pz_R dA d 112 85 [v0, .int x, v2] st f Q = pz_R dA d 112 86 [v0, .int x, v2] (.int x :: st) f Q := pz_go (pz_so d112_85 rfl)
theorem d112_86 : decode (pz_b 112) 86 = .ok (.iconst 1, 1) := by decide +kernel
theorem q112_86 {dA : Nat → ClassId} {d : Nat} {st : List Value} {f : pz_F} {Q : Option Value → pz_F → Prop} {v0 v1 v2 : Value} : pz_R dA d 112 86 [v0, v1, v2] st f Q = pz_R dA d 112 87 [v0, v1, v2] (.int 1 :: st) f Q := pz_go (pz_so d112_86 rfl)
theorem d112_87 : decode (pz_b 112) 87 = .ok (.iastore, 1) := by decide +kernel
theorem q112_87 {dA : Nat → ClassId} {d : Nat} {st : List Value} {f : pz_F} {Q : Option Value → pz_F → Prop} {v0 v1 v2 : Value} {x i : Int32} {a : Nat} : pz_R dA d 112 87 [v0, v1, v2] (.int x :: .int i :: .ref a :: st) f Q = pz_o (pz_is (dA 0) f a i x) (fun f' => pz_R dA d 112 88 [v0, v1, v2] st f' Q) := pz_gis d112_87
theorem d112_88 : decode (pz_b 112) 88 = .ok (.return_, 1) := by decide +kernel
theorem q112_88 {dA : Nat → ClassId} {d : Nat} {f : pz_F} {Q : Option Value → pz_F → Prop} {v0 v1 v2 : Value} : pz_R dA d 112 88 [v0, v1, v2] [] f Q = Q none f := pz_gr (pz_so d112_88 rfl)
