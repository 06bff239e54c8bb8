/-! X_arrives ()V -/
theorem e113 {dA : Nat → ClassId} {d : Nat} {f : pz_F} {Q : Option Value → pz_F → Prop} {a0 : Nat} : pz_C dA d 113 [.ref a0] f Q = pz_R dA d 113 0 [.ref a0, .retAddr 0, .retAddr 0] [] f Q := rfl
theorem d113_0 : decode (pz_b 113) 0 = .ok (.aload_n 0, 1) := by decide +kernel
theorem q113_0 {dA : Nat → ClassId} {d : Nat} {st : List Value} {f : pz_F} {Q : Option Value → pz_F → Prop} {v1 v2 : Value} {x : Nat} : pz_R dA d 113 0 [.ref x, v1, v2] st f Q = pz_R dA d 113 1 [.ref x, v1, v2] (.ref x :: st) f Q := pz_go (pz_so d113_0 rfl)
theorem d113_1 : decode (pz_b 113) 1 = .ok (.getfield 72, 3) := by decide +kernel
theorem q113_1 {dA : Nat → ClassId} {d : Nat} {st : List Value} {f : pz_F} {Q : Option Value → pz_F → Prop} {v0 v1 v2 : Value} {a : Nat} : pz_R dA d 113 1 [v0, v1, v2] (.ref a :: st) f Q = pz_o (pz_gf f a 6 22) (fun v => pz_R dA d 113 4 [v0, v1, v2] (v :: st) f Q) := pz_gg d113_1 rfl
theorem d113_4 : decode (pz_b 113) 4 = .ok (.iconst 2, 1) := by decide +kernel
theorem q113_4 {dA : Nat → ClassId} {d : Nat} {st : List Value} {f : pz_F} {Q : Option Value → pz_F → Prop} {v0 v1 v2 : Value} : pz_R dA d 113 4 [v0, v1, v2] st f Q = pz_R dA d 113 5 [v0, v1, v2] (.int 2 :: st) f Q := pz_go (pz_so d113_4 rfl)
theorem d113_5 : decode (pz_b 113) 5 = .ok (.iaload, 1) := by decide +kernel
theorem q113_5 {dA : Nat → ClassId} {d : Nat} {st : List Value} {f : pz_F} {Q : Option Value → pz_F → Prop} {v0 v1 v2 : Value} {i : Int32} {a : Nat} : pz_R dA d 113 5 [v0, v1, v2] (.int i :: .ref a :: st) f Q = pz_o (pz_il (dA 0) f a i) (fun x => pz_R dA d 113 6 [v0, v1, v2] (.int x :: st) f Q) := pz_gil d113_5
theorem d113_6 : decode (pz_b 113) 6 = .ok (.istore_n 1, 1) := by decide +kernel
theorem q113_6 {dA : Nat → ClassId} {d : Nat} {st : List Value} {f : pz_F} {Q : Option Value → pz_F → Prop} {v0 v1 v2 : Value} {x : Int32} : pz_R dA d 113 6 [v0, v1, v2] (.int x :: st) f Q = pz_R dA d 113 7 [v0, .int x, v2] st f Q := pz_go (pz_so d113_6 rfl)
theorem d113_7 : decode (pz_b 113) 7 = .ok (.aload_n 0, 1) := by decide +kernel
theorem q113_7 {dA : Nat → ClassId} {d : Nat} {st : List Value} {f : pz_F} {Q : Option Value → pz_F → Prop} {v1 v2 : Value} {x : Nat} : pz_R dA d 113 7 [.ref x, v1, v2] st f Q = pz_R dA d 113 8 [.ref x, v1, v2] (.ref x :: st) f Q := pz_go (pz_so d113_7 rfl)
theorem d113_8 : decode (pz_b 113) 8 = .ok (.getfield 72, 3) := by decide +kernel
theorem q113_8 {dA : Nat → ClassId} {d : Nat} {st : List Value} {f : pz_F} {Q : Option Value → pz_F → Prop} {v0 v1 v2 : Value} {a : Nat} : pz_R dA d 113 8 [v0, v1, v2] (.ref a :: st) f Q = pz_o (pz_gf f a 6 22) (fun v => pz_R dA d 113 11 [v0, v1, v2] (v :: st) f Q) := pz_gg d113_8 rfl
theorem d113_11 : decode (pz_b 113) 11 = .ok (.iconst 1, 1) := by decide +kernel
theorem q113_11 {dA : Nat → ClassId} {d : Nat} {st : List Value} {f : pz_F} {Q : Option Value → pz_F → Prop} {v0 v1 v2 : Value} : pz_R dA d 113 11 [v0, v1, v2] st f Q = pz_R dA d 113 12 [v0, v1, v2] (.int 1 :: st) f Q := pz_go (pz_so d113_11 rfl)
theorem d113_12 : decode (pz_b 113) 12 = .ok (.iaload, 1) := by decide +kernel
theorem q113_12 {dA : Nat → ClassId} {d : Nat} {st : List Value} {f : pz_F} {Q : Option Value → pz_F → Prop} {v0 v1 v2 : Value} {i : Int32} {a : Nat} : pz_R dA d 113 12 [v0, v1, v2] (.int i :: .ref a :: st) f Q = pz_o (pz_il (dA 0) f a i) (fun x => pz_R dA d 113 13 [v0, v1, v2] (.int x :: st) f Q) := pz_gil d113_12
theorem d113_13 : decode (pz_b 113) 13 = .ok (.istore_n 2, 1) := by decide +kernel
theorem q113_13 {dA : Nat → ClassId} {d : Nat} {st : List Value} {f : pz_F} {Q : Option Value → pz_F → Prop} {v0 v1 v2 : Value} {x : Int32} : pz_R dA d 113 13 [v0, v1, v2] (.int x :: st) f Q = pz_R dA d 113 14 [v0, v1, .int x] st f Q := pz_go (pz_so d113_13 rfl)
theorem d113_14 : decode (pz_b 113) 14 = .ok (.aload_n 0, 1) := by decide +kernel
theorem q113_14 {dA : Nat → ClassId} {d : Nat} {st : List Value} {f : pz_F} {Q : Option Value → pz_F → Prop} {v1 v2 : Value} {x : Nat} : pz_R dA d 113 14 [.ref x, v1, v2] st f Q = pz_R dA d 113 15 [.ref x, v1, v2] (.ref x :: st) f Q := pz_go (pz_so d113_14 rfl)
theorem d113_15 : decode (pz_b 113) 15 = .ok (.getfield 72, 3) := by decide +kernel
theorem q113_15 {dA : Nat → ClassId} {d : Nat} {st : List Value} {f : pz_F} {Q : Option Value → pz_F → Prop} {v0 v1 v2 : Value} {a : Nat} : pz_R dA d 113 15 [v0, v1, v2] (.ref a :: st) f Q = pz_o (pz_gf f a 6 22) (fun v => pz_R dA d 113 18 [v0, v1, v2] (v :: st) f Q) := pz_gg d113_15 rfl
theorem d113_18 : decode (pz_b 113) 18 = .ok (.iconst 0, 1) := by decide +kernel
theorem q113_18 {dA : Nat → ClassId} {d : Nat} {st : List Value} {f : pz_F} {Q : Option Value → pz_F → Prop} {v0 v1 v2 : Value} : pz_R dA d 113 18 [v0, v1, v2] st f Q = pz_R dA d 113 19 [v0, v1, v2] (.int 0 :: st) f Q := pz_go (pz_so d113_18 rfl)
theorem d113_19 : decode (pz_b 113) 19 = .ok (.iaload, 1) := by decide +kernel
theorem q113_19 {dA : Nat → ClassId} {d : Nat} {st : List Value} {f : pz_F} {Q : Option Value → pz_F → Prop} {v0 v1 v2 : Value} {i : Int32} {a : Nat} : pz_R dA d 113 19 [v0, v1, v2] (.int i :: .ref a :: st) f Q = pz_o (pz_il (dA 0) f a i) (fun x => pz_R dA d 113 20 [v0, v1, v2] (.int x :: st) f Q) := pz_gil d113_19
theorem d113_20 : decode (pz_b 113) 20 = .ok (.iconst 1, 1) := by decide +kernel
theorem q113_20 {dA : Nat → ClassId} {d : Nat} {st : List Value} {f : pz_F} {Q : Option Value → pz_F → Prop} {v0 v1 v2 : Value} : pz_R dA d 113 20 [v0, v1, v2] st f Q = pz_R dA d 113 21 [v0, v1, v2] (.int 1 :: st) f Q := pz_go (pz_so d113_20 rfl)
theorem d113_21 : decode (pz_b 113) 21 = .ok (.if_icmp .eq 13, 3) := by decide +kernel
theorem q113_21 {dA : Nat → ClassId} {d : Nat} {st : List Value} {f : pz_F} {Q : Option Value → pz_F → Prop} {v0 v1 v2 : Value} {x y : Int32} : pz_R dA d 113 21 [v0, v1, v2] (.int y :: .int x :: st) f Q = (if x = y then pz_R dA d 113 34 [v0, v1, v2] st f Q else pz_R dA d 113 24 [v0, v1, v2] st f Q) := pz_gjn .eq d113_21 rfl
theorem d113_24 : decode (pz_b 113) 24 = .ok (.aload_n 0, 1) := by decide +kernel
theorem q113_24 {dA : Nat → ClassId} {d : Nat} {st : List Value} {f : pz_F} {Q : Option Value → pz_F → Prop} {v1 v2 : Value} {x : Nat} : pz_R dA d 113 24 [.ref x, v1, v2] st f Q = pz_R dA d 113 25 [.ref x, v1, v2] (.ref x :: st) f Q := pz_go (pz_so d113_24 rfl)
theorem d113_25 : decode (pz_b 113) 25 = .ok (.getfield 72, 3) := by decide +kernel
theorem q113_25 {dA : Nat → ClassId} {d : Nat} {st : List Value} {f : pz_F} {Q : Option Value → pz_F → Prop} {v0 v1 v2 : Value} {a : Nat} : pz_R dA d 113 25 [v0, v1, v2] (.ref a :: st) f Q = pz_o (pz_gf f a 6 22) (fun v => pz_R dA d 113 28 [v0, v1, v2] (v :: st) f Q) := pz_gg d113_25 rfl
theorem d113_28 : decode (pz_b 113) 28 = .ok (.iconst 0, 1) := by decide +kernel
theorem q113_28 {dA : Nat → ClassId} {d : Nat} {st : List Value} {f : pz_F} {Q : Option Value → pz_F → Prop} {v0 v1 v2 : Value} : pz_R dA d 113 28 [v0, v1, v2] st f Q = pz_R dA d 113 29 [v0, v1, v2] (.int 0 :: st) f Q := pz_go (pz_so d113_28 rfl)
theorem d113_29 : decode (pz_b 113) 29 = .ok (.iaload, 1) := by decide +kernel
theorem q113_29 {dA : Nat → ClassId} {d : Nat} {st : List Value} {f : pz_F} {Q : Option Value → pz_F → Prop} {v0 v1 v2 : Value} {i : Int32} {a : Nat} : pz_R dA d 113 29 [v0, v1, v2] (.int i :: .ref a :: st) f Q = pz_o (pz_il (dA 0) f a i) (fun x => pz_R dA d 113 30 [v0, v1, v2] (.int x :: st) f Q) := pz_gil d113_29
theorem d113_30 : decode (pz_b 113) 30 = .ok (.iconst 2, 1) := by decide +kernel
theorem q113_30 {dA : Nat → ClassId} {d : Nat} {st : List Value} {f : pz_F} {Q : Option Value → pz_F → Prop} {v0 v1 v2 : Value} : pz_R dA d 113 30 [v0, v1, v2] st f Q = pz_R dA d 113 31 [v0, v1, v2] (.int 2 :: st) f Q := pz_go (pz_so d113_30 rfl)
theorem d113_31 : decode (pz_b 113) 31 = .ok (.if_icmp .ne 85, 3) := by decide +kernel
theorem q113_31 {dA : Nat → ClassId} {d : Nat} {st : List Value} {f : pz_F} {Q : Option Value → pz_F → Prop} {v0 v1 v2 : Value} {x y : Int32} : pz_R dA d 113 31 [v0, v1, v2] (.int y :: .int x :: st) f Q = (if x = y then pz_R dA d 113 34 [v0, v1, v2] st f Q else pz_R dA d 113 116 [v0, v1, v2] st f Q) := pz_gjn .ne d113_31 rfl
theorem d113_34 : decode (pz_b 113) 34 = .ok (.aload_n 0, 1) := by decide +kernel
theorem q113_34 {dA : Nat → ClassId} {d : Nat} {st : List Value} {f : pz_F} {Q : Option Value → pz_F → Prop} {v1 v2 : Value} {x : Nat} : pz_R dA d 113 34 [.ref x, v1, v2] st f Q = pz_R dA d 113 35 [.ref x, v1, v2] (.ref x :: st) f Q := pz_go (pz_so d113_34 rfl)
theorem d113_35 : decode (pz_b 113) 35 = .ok (.getfield 63, 3) := by decide +kernel
theorem q113_35 {dA : Nat → ClassId} {d : Nat} {st : List Value} {f : pz_F} {Q : Option Value → pz_F → Prop} {v0 v1 v2 : Value} {a : Nat} : pz_R dA d 113 35 [v0, v1, v2] (.ref a :: st) f Q = pz_o (pz_gf f a 6 18) (fun v => pz_R dA d 113 38 [v0, v1, v2] (v :: st) f Q) := pz_gg d113_35 rfl
theorem d113_38 : decode (pz_b 113) 38 = .ok (.iload_n 1, 1) := by decide +kernel
theorem q113_38 {dA : Nat → ClassId} {d : Nat} {st : List Value} {f : pz_F} {Q : Option Value → pz_F → Prop} {v0 v2 : Value} {x : Int32} : pz_R dA d 113 38 [v0, .int x, v2] st f Q = pz_R dA d 113 39 [v0, .int x, v2] (.int x :: st) f Q := pz_go (pz_so d113_38 rfl)
theorem d113_39 : decode (pz_b 113) 39 = .ok (.baload, 1) := by decide +kernel
theorem q113_39 {dA : Nat → ClassId} {d : Nat} {st : List Value} {f : pz_F} {Q : Option Value → pz_F → Prop} {v0 v1 v2 : Value} {i : Int32} {a : Nat} : pz_R dA d 113 39 [v0, v1, v2] (.int i :: .ref a :: st) f Q = pz_o (pz_il (dA 1) f a i) (fun x => pz_R dA d 113 40 [v0, v1, v2] (.int x :: st) f Q) := pz_gzl d113_39
theorem d113_40 : decode (pz_b 113) 40 = .ok (.ifCond .eq 18, 3) := by decide +kernel
theorem q113_40 {dA : Nat → ClassId} {d : Nat} {st : List Value} {f : pz_F} {Q : Option Value → pz_F → Prop} {v0 v1 v2 : Value} {x : Int32} : pz_R dA d 113 40 [v0, v1, v2] (.int x :: st) f Q = (if x = 0 then pz_R dA d 113 58 [v0, v1, v2] st f Q else pz_R dA d 113 43 [v0, v1, v2] st f Q) := pz_gj1 .eq d113_40 rfl
theorem d113_43 : decode (pz_b 113) 43 = .ok (.aload_n 0, 1) := by decide +kernel
theorem q113_43 {dA : Nat → ClassId} {d : Nat} {st : List Value} {f : pz_F} {Q : Option Value → pz_F → Prop} {v1 v2 : Value} {x : Nat} : pz_R dA d 113 43 [.ref x, v1, v2] st f Q = pz_R dA d 113 44 [.ref x, v1, v2] (.ref x :: st) f Q := pz_go (pz_so d113_43 rfl)
theorem d113_44 : decode (pz_b 113) 44 = .ok (.getfield 60, 3) := by decide +kernel
theorem q113_44 {dA : Nat → ClassId} {d : Nat} {st : List Value} {f : pz_F} {Q : Option Value → pz_F → Prop} {v0 v1 v2 : Value} {a : Nat} : pz_R dA d 113 44 [v0, v1, v2] (.ref a :: st) f Q = pz_o (pz_gf f a 6 17) (fun v => pz_R dA d 113 47 [v0, v1, v2] (v :: st) f Q) := pz_gg d113_44 rfl
theorem d113_47 : decode (pz_b 113) 47 = .ok (.iload_n 1, 1) := by decide +kernel
theorem q113_47 {dA : Nat → ClassId} {d : Nat} {st : List Value} {f : pz_F} {Q : Option Value → pz_F → Prop} {v0 v2 : Value} {x : Int32} : pz_R dA d 113 47 [v0, .int x, v2] st f Q = pz_R dA d 113 48 [v0, .int x, v2] (.int x :: st) f Q := pz_go (pz_so d113_47 rfl)
theorem d113_48 : decode (pz_b 113) 48 = .ok (.iaload, 1) := by decide +kernel
theorem q113_48 {dA : Nat → ClassId} {d : Nat} {st : List Value} {f : pz_F} {Q : Option Value → pz_F → Prop} {v0 v1 v2 : Value} {i : Int32} {a : Nat} : pz_R dA d 113 48 [v0, v1, v2] (.int i :: .ref a :: st) f Q = pz_o (pz_il (dA 0) f a i) (fun x => pz_R dA d 113 49 [v0, v1, v2] (.int x :: st) f Q) := pz_gil d113_48
theorem d113_49 : decode (pz_b 113) 49 = .ok (.aload_n 0, 1) := by decide +kernel
theorem q113_49 {dA : Nat → ClassId} {d : Nat} {st : List Value} {f : pz_F} {Q : Option Value → pz_F → Prop} {v1 v2 : Value} {x : Nat} : pz_R dA d 113 49 [.ref x, v1, v2] st f Q = pz_R dA d 113 50 [.ref x, v1, v2] (.ref x :: st) f Q := pz_go (pz_so d113_49 rfl)
theorem d113_50 : decode (pz_b 113) 50 = .ok (.getfield 72, 3) := by decide +kernel
theorem q113_50 {dA : Nat → ClassId} {d : Nat} {st : List Value} {f : pz_F} {Q : Option Value → pz_F → Prop} {v0 v1 v2 : Value} {a : Nat} : pz_R dA d 113 50 [v0, v1, v2] (.ref a :: st) f Q = pz_o (pz_gf f a 6 22) (fun v => pz_R dA d 113 53 [v0, v1, v2] (v :: st) f Q) := pz_gg d113_50 rfl
theorem d113_53 : decode (pz_b 113) 53 = .ok (.iconst 3, 1) := by decide +kernel
theorem q113_53 {dA : Nat → ClassId} {d : Nat} {st : List Value} {f : pz_F} {Q : Option Value → pz_F → Prop} {v0 v1 v2 : Value} : pz_R dA d 113 53 [v0, v1, v2] st f Q = pz_R dA d 113 54 [v0, v1, v2] (.int 3 :: st) f Q := pz_go (pz_so d113_53 rfl)
theorem d113_54 : decode (pz_b 113) 54 = .ok (.iaload, 1) := by decide +kernel
theorem q113_54 {dA : Nat → ClassId} {d : Nat} {st : List Value} {f : pz_F} {Q : Option Value → pz_F → Prop} {v0 v1 v2 : Value} {i : Int32} {a : Nat} : pz_R dA d 113 54 [v0, v1, v2] (.int i :: .ref a :: st) f Q = pz_o (pz_il (dA 0) f a i) (fun x => pz_R dA d 113 55 [v0, v1, v2] (.int x :: st) f Q) := pz_gil d113_54
theorem d113_55 : decode (pz_b 113) 55 = .ok (.if_icmp .eq 4, 3) := by decide +kernel
theorem q113_55 {dA : Nat → ClassId} {d : Nat} {st : List Value} {f : pz_F} {Q : Option Value → pz_F → Prop} {v0 v1 v2 : Value} {x y : Int32} : pz_R dA d 113 55 [v0, v1, v2] (.int y :: .int x :: st) f Q = (if x = y then pz_R dA d 113 59 [v0, v1, v2] st f Q else pz_R dA d 113 58 [v0, v1, v2] st f Q) := pz_gjn .eq d113_55 rfl
theorem d113_58 : decode (pz_b 113) 58 = .ok (.return_, 1) := by decide +kernel
theorem q113_58 {dA : Nat → ClassId} {d : Nat} {f : pz_F} {Q : Option Value → pz_F → Prop} {v0 v1 v2 : Value} : pz_R dA d 113 58 [v0, v1, v2] [] f Q = Q none f := pz_gr (pz_so d113_58 rfl)
theorem d113_59 : decode (pz_b 113) 59 = .ok (.aload_n 0, 1) := by decide +kernel
theorem q113_59 {dA : Nat → ClassId} {d : Nat} {st : List Value} {f : pz_F} {Q : Option Value → pz_F → Prop} {v1 v2 : Value} {x : Nat} : pz_R dA d 113 59 [.ref x, v1, v2] st f Q = pz_R dA d 113 60 [.ref x, v1, v2] (.ref x :: st) f Q := pz_go (pz_so d113_59 rfl)
theorem d113_60 : decode (pz_b 113) 60 = .ok (.getfield 63, 3) := by decide +kernel
theorem q113_60 {dA : Nat → ClassId} {d : Nat} {st : List Value} {f : pz_F} {Q : Option Value → pz_F → Prop} {v0 v1 v2 : Value} {a : Nat} : pz_R dA d 113 60 [v0, v1, v2] (.ref a :: st) f Q = pz_o (pz_gf f a 6 18) (fun v => pz_R dA d 113 63 [v0, v1, v2] (v :: st) f Q) := pz_gg d113_60 rfl
theorem d113_63 : decode (pz_b 113) 63 = .ok (.iload_n 1, 1) := by decide +kernel
theorem q113_63 {dA : Nat → ClassId} {d : Nat} {st : List Value} {f : pz_F} {Q : Option Value → pz_F → Prop} {v0 v2 : Value} {x : Int32} : pz_R dA d 113 63 [v0, .int x, v2] st f Q = pz_R dA d 113 64 [v0, .int x, v2] (.int x :: st) f Q := pz_go (pz_so d113_63 rfl)
theorem d113_64 : decode (pz_b 113) 64 = .ok (.iconst 0, 1) := by decide +kernel
theorem q113_64 {dA : Nat → ClassId} {d : Nat} {st : List Value} {f : pz_F} {Q : Option Value → pz_F → Prop} {v0 v1 v2 : Value} : pz_R dA d 113 64 [v0, v1, v2] st f Q = pz_R dA d 113 65 [v0, v1, v2] (.int 0 :: st) f Q := pz_go (pz_so d113_64 rfl)
theorem d113_65 : decode (pz_b 113) 65 = .ok (.bastore, 1) := by decide +kernel
theorem q113_65z {dA : Nat → ClassId} {d : Nat} {st : List Value} {f : pz_F} {Q : Option Value → pz_F → Prop} {v0 v1 v2 : Value} {i : Int32} {a : Nat} : pz_R dA d 113 65 [v0, v1, v2] (.int 0 :: .int i :: .ref a :: st) f Q = pz_o (pz_is (dA 1) f a i 0) (fun f' => pz_R dA d 113 66 [v0, v1, v2] st f' Q) := pz_gzs d113_65 rfl
theorem q113_65o {dA : Nat → ClassId} {d : Nat} {st : List Value} {f : pz_F} {Q : Option Value → pz_F → Prop} {v0 v1 v2 : Value} {i : Int32} {a : Nat} : pz_R dA d 113 65 [v0, v1, v2] (.int 1 :: .int i :: .ref a :: st) f Q = pz_o (pz_is (dA 1) f a i 1) (fun f' => pz_R dA d 113 66 [v0, v1, v2] st f' Q) := pz_gzs d113_65 rfl
theorem d113_66 : decode (pz_b 113) 66 = .ok (.aload_n 0, 1) := by decide +kernel
theorem q113_66 {dA : Nat → ClassId} {d : Nat} {st : List Value} {f : pz_F} {Q : Option Value → pz_F → Prop} {v1 v2 : Value} {x : Nat} : pz_R dA d 113 66 [.ref x, v1, v2] st f Q = pz_R dA d 113 67 [.ref x, v1, v2] (.ref x :: st) f Q := pz_go (pz_so d113_66 rfl)
theorem d113_67 : decode (pz_b 113) 67 = .ok (.getfield 72, 3) := by decide +kernel
theorem q113_67 {dA : Nat → ClassId} {d : Nat} {st : List Value} {f : pz_F} {Q : Option Value → pz_F → Prop} {v0 v1 v2 : Value} {a : Nat} : pz_R dA d 113 67 [v0, v1, v2] (.ref a :: st) f Q = pz_o (pz_gf f a 6 22) (fun v => pz_R dA d 113 70 [v0, v1, v2] (v :: st) f Q) := pz_gg d113_67 rfl
theorem d113_70 : decode (pz_b 113) 70 = .ok (.iconst 0, 1) := by decide +kernel
theorem q113_70 {dA : Nat → ClassId} {d : Nat} {st : List Value} {f : pz_F} {Q : Option Value → pz_F → Prop} {v0 v1 v2 : Value} : pz_R dA d 113 70 [v0, v1, v2] st f Q = pz_R dA d 113 71 [v0, v1, v2] (.int 0 :: st) f Q := pz_go (pz_so d113_70 rfl)
theorem d113_71 : decode (pz_b 113) 71 = .ok (.iaload, 1) := by decide +kernel
theorem q113_71 {dA : Nat → ClassId} {d : Nat} {st : List Value} {f : pz_F} {Q : Option Value → pz_F → Prop} {v0 v1 v2 : Value} {i : Int32} {a : Nat} : pz_R dA d 113 71 [v0, v1, v2] (.int i :: .ref a :: st) f Q = pz_o (pz_il (dA 0) f a i) (fun x => pz_R dA d 113 72 [v0, v1, v2] (.int x :: st) f Q) := pz_gil d113_71
theorem d113_72 : decode (pz_b 113) 72 = .ok (.iconst 1, 1) := by decide +kernel
theorem q113_72 {dA : Nat → ClassId} {d : Nat} {st : List Value} {f : pz_F} {Q : Option Value → pz_F → Prop} {v0 v1 v2 : Value} : pz_R dA d 113 72 [v0, v1, v2] st f Q = pz_R dA d 113 73 [v0, v1, v2] (.int 1 :: st) f Q := pz_go (pz_so d113_72 rfl)
theorem d113_73 : decode (pz_b 113) 73 = .ok (.if_icmp .ne 42, 3) := by decide +kernel
theorem q113_73 {dA : Nat → ClassId} {d : Nat} {st : List Value} {f : pz_F} {Q : Option Value → pz_F → Prop} {v0 v1 v2 : Value} {x y : Int32} : pz_R dA d 113 73 [v0, v1, v2] (.int y :: .int x :: st) f Q = (if x = y then pz_R dA d 113 76 [v0, v1, v2] st f Q else pz_R dA d 113 115 [v0, v1, v2] st f Q) := pz_gjn .ne d113_73 rfl
theorem d113_76 : decode (pz_b 113) 76 = .ok (.aload_n 0, 1) := by decide +kernel
theorem q113_76 {dA : Nat → ClassId} {d : Nat} {st : List Value} {f : pz_F} {Q : Option Value → pz_F → Prop} {v1 v2 : Value} {x : Nat} : pz_R dA d 113 76 [.ref x, v1, v2] st f Q = pz_R dA d 113 77 [.ref x, v1, v2] (.ref x :: st) f Q := pz_go (pz_so d113_76 rfl)
theorem d113_77 : decode (pz_b 113) 77 = .ok (.getfield 72, 3) := by decide +kernel
theorem q113_77 {dA : Nat → ClassId} {d : Nat} {st : List Value} {f : pz_F} {Q : Option Value → pz_F → Prop} {v0 v1 v2 : Value} {a : Nat} : pz_R dA d 113 77 [v0, v1, v2] (.ref a :: st) f Q = pz_o (pz_gf f a 6 22) (fun v => pz_R dA d 113 80 [v0, v1, v2] (v :: st) f Q) := pz_gg d113_77 rfl
theorem d113_80 : decode (pz_b 113) 80 = .ok (.bipush 7, 2) := by decide +kernel
theorem q113_80 {dA : Nat → ClassId} {d : Nat} {st : List Value} {f : pz_F} {Q : Option Value → pz_F → Prop} {v0 v1 v2 : Value} : pz_R dA d 113 80 [v0, v1, v2] st f Q = pz_R dA d 113 82 [v0, v1, v2] (.int 7 :: st) f Q := pz_go (pz_so d113_80 rfl)
theorem d113_82 : decode (pz_b 113) 82 = .ok (.iaload, 1) := by decide +kernel
theorem q113_82 {dA : Nat → ClassId} {d : Nat} {st : List Value} {f : pz_F} {Q : Option Value → pz_F → Prop} {v0 v1 v2 : Value} {i : Int32} {a : Nat} : pz_R dA d 113 82 [v0, v1, v2] (.int i :: .ref a :: st) f Q = pz_o (pz_il (dA 0) f a i) (fun x => pz_R dA d 113 83 [v0, v1, v2] (.int x :: st) f Q) := pz_gil d113_82
theorem d113_83 : decode (pz_b 113) 83 = .ok (.aload_n 0, 1) := by decide +kernel
theorem q113_83 {dA : Nat → ClassId} {d : Nat} {st : List Value} {f : pz_F} {Q : Option Value → pz_F → Prop} {v1 v2 : Value} {x : Nat} : pz_R dA d 113 83 [.ref x, v1, v2] st f Q = pz_R dA d 113 84 [.ref x, v1, v2] (.ref x :: st) f Q := pz_go (pz_so d113_83 rfl)
theorem d113_84 : decode (pz_b 113) 84 = .ok (.getfield 78, 3) := by decide +kernel
theorem q113_84 {dA : Nat → ClassId} {d : Nat} {st : List Value} {f : pz_F} {Q : Option Value → pz_F → Prop} {v0 v1 v2 : Value} {a : Nat} : pz_R dA d 113 84 [v0, v1, v2] (.ref a :: st) f Q = pz_o (pz_gf f a 6 0) (fun v => pz_R dA d 113 87 [v0, v1, v2] (v :: st) f Q) := pz_gg d113_84 rfl
theorem d113_87 : decode (pz_b 113) 87 = .ok (.if_icmp .lt 28, 3) := by decide +kernel
theorem q113_87 {dA : Nat → ClassId} {d : Nat} {st : List Value} {f : pz_F} {Q : Option Value → pz_F → Prop} {v0 v1 v2 : Value} {x y : Int32} : pz_R dA d 113 87 [v0, v1, v2] (.int y :: .int x :: st) f Q = (if x < y then pz_R dA d 113 115 [v0, v1, v2] st f Q else pz_R dA d 113 90 [v0, v1, v2] st f Q) := pz_gjn .lt d113_87 rfl
theorem d113_90 : decode (pz_b 113) 90 = .ok (.aload_n 0, 1) := by decide +kernel
theorem q113_90 {dA : Nat → ClassId} {d : Nat} {st : List Value} {f : pz_F} {Q : Option Value → pz_F → Prop} {v1 v2 : Value} {x : Nat} : pz_R dA d 113 90 [.ref x, v1, v2] st f Q = pz_R dA d 113 91 [.ref x, v1, v2] (.ref x :: st) f Q := pz_go (pz_so d113_90 rfl)
theorem d113_91 : decode (pz_b 113) 91 = .ok (.getfield 54, 3) := by decide +kernel
theorem q113_91 {dA : Nat → ClassId} {d : Nat} {st : List Value} {f : pz_F} {Q : Option Value → pz_F → Prop} {v0 v1 v2 : Value} {a : Nat} : pz_R dA d 113 91 [v0, v1, v2] (.ref a :: st) f Q = pz_o (pz_gf f a 6 15) (fun v => pz_R dA d 113 94 [v0, v1, v2] (v :: st) f Q) := pz_gg d113_91 rfl
theorem d113_94 : decode (pz_b 113) 94 = .ok (.iload_n 1, 1) := by decide +kernel
theorem q113_94 {dA : Nat → ClassId} {d : Nat} {st : List Value} {f : pz_F} {Q : Option Value → pz_F → Prop} {v0 v2 : Value} {x : Int32} : pz_R dA d 113 94 [v0, .int x, v2] st f Q = pz_R dA d 113 95 [v0, .int x, v2] (.int x :: st) f Q := pz_go (pz_so d113_94 rfl)
theorem d113_95 : decode (pz_b 113) 95 = .ok (.aload_n 0, 1) := by decide +kernel
theorem q113_95 {dA : Nat → ClassId} {d : Nat} {st : List Value} {f : pz_F} {Q : Option Value → pz_F → Prop} {v1 v2 : Value} {x : Nat} : pz_R dA d 113 95 [.ref x, v1, v2] st f Q = pz_R dA d 113 96 [.ref x, v1, v2] (.ref x :: st) f Q := pz_go (pz_so d113_95 rfl)
theorem d113_96 : decode (pz_b 113) 96 = .ok (.getfield 72, 3) := by decide +kernel
theorem q113_96 {dA : Nat → ClassId} {d : Nat} {st : List Value} {f : pz_F} {Q : Option Value → pz_F → Prop} {v0 v1 v2 : Value} {a : Nat} : pz_R dA d 113 96 [v0, v1, v2] (.ref a :: st) f Q = pz_o (pz_gf f a 6 22) (fun v => pz_R dA d 113 99 [v0, v1, v2] (v :: st) f Q) := pz_gg d113_96 rfl
theorem d113_99 : decode (pz_b 113) 99 = .ok (.iconst 4, 1) := by decide +kernel
theorem q113_99 {dA : Nat → ClassId} {d : Nat} {st : List Value} {f : pz_F} {Q : Option Value → pz_F → Prop} {v0 v1 v2 : Value} : pz_R dA d 113 99 [v0, v1, v2] st f Q = pz_R dA d 113 100 [v0, v1, v2] (.int 4 :: st) f Q := pz_go (pz_so d113_99 rfl)
theorem d113_100 : decode (pz_b 113) 100 = .ok (.iaload, 1) := by decide +kernel
theorem q113_100 {dA : Nat → ClassId} {d : Nat} {st : List Value} {f : pz_F} {Q : Option Value → pz_F → Prop} {v0 v1 v2 : Value} {i : Int32} {a : Nat} : pz_R dA d 113 100 [v0, v1, v2] (.int i :: .ref a :: st) f Q = pz_o (pz_il (dA 0) f a i) (fun x => pz_R dA d 113 101 [v0, v1, v2] (.int x :: st) f Q) := pz_gil d113_100
theorem d113_101 : decode (pz_b 113) 101 = .ok (.iastore, 1) := by decide +kernel
theorem q113_101 {dA : Nat → ClassId} {d : Nat} {st : List Value} {f : pz_F} {Q : Option Value → pz_F → Prop} {v0 v1 v2 : Value} {x i : Int32} {a : Nat} : pz_R dA d 113 101 [v0, v1, v2] (.int x :: .int i :: .ref a :: st) f Q = pz_o (pz_is (dA 0) f a i x) (fun f' => pz_R dA d 113 102 [v0, v1, v2] st f' Q) := pz_gis d113_101
theorem d113_102 : decode (pz_b 113) 102 = .ok (.aload_n 0, 1) := by decide +kernel
theorem q113_102 {dA : Nat → ClassId} {d : Nat} {st : List Value} {f : pz_F} {Q : Option Value → pz_F → Prop} {v1 v2 : Value} {x : Nat} : pz_R dA d 113 102 [.ref x, v1, v2] st f Q = pz_R dA d 113 103 [.ref x, v1, v2] (.ref x :: st) f Q := pz_go (pz_so d113_102 rfl)
theorem d113_103 : decode (pz_b 113) 103 = .ok (.getfield 57, 3) := by decide +kernel
theorem q113_103 {dA : Nat → ClassId} {d : Nat} {st : List Value} {f : pz_F} {Q : Option Value → pz_F → Prop} {v0 v1 v2 : Value} {a : Nat} : pz_R dA d 113 103 [v0, v1, v2] (.ref a :: st) f Q = pz_o (pz_gf f a 6 16) (fun v => pz_R dA d 113 106 [v0, v1, v2] (v :: st) f Q) := pz_gg d113_103 rfl
theorem d113_106 : decode (pz_b 113) 106 = .ok (.iload_n 1, 1) := by decide +kernel
theorem q113_106 {dA : Nat → ClassId} {d : Nat} {st : List Value} {f : pz_F} {Q : Option Value → pz_F → Prop} {v0 v2 : Value} {x : Int32} : pz_R dA d 113 106 [v0, .int x, v2] st f Q = pz_R dA d 113 107 [v0, .int x, v2] (.int x :: st) f Q := pz_go (pz_so d113_106 rfl)
theorem d113_107 : decode (pz_b 113) 107 = .ok (.aload_n 0, 1) := by decide +kernel
theorem q113_107 {dA : Nat → ClassId} {d : Nat} {st : List Value} {f : pz_F} {Q : Option Value → pz_F → Prop} {v1 v2 : Value} {x : Nat} : pz_R dA d 113 107 [.ref x, v1, v2] st f Q = pz_R dA d 113 108 [.ref x, v1, v2] (.ref x :: st) f Q := pz_go (pz_so d113_107 rfl)
theorem d113_108 : decode (pz_b 113) 108 = .ok (.getfield 72, 3) := by decide +kernel
theorem q113_108 {dA : Nat → ClassId} {d : Nat} {st : List Value} {f : pz_F} {Q : Option Value → pz_F → Prop} {v0 v1 v2 : Value} {a : Nat} : pz_R dA d 113 108 [v0, v1, v2] (.ref a :: st) f Q = pz_o (pz_gf f a 6 22) (fun v => pz_R dA d 113 111 [v0, v1, v2] (v :: st) f Q) := pz_gg d113_108 rfl
theorem d113_111 : decode (pz_b 113) 111 = .ok (.bipush 7, 2) := by decide +kernel
theorem q113_111 {dA : Nat → ClassId} {d : Nat} {st : List Value} {f : pz_F} {Q : Option Value → pz_F → Prop} {v0 v1 v2 : Value} : pz_R dA d 113 111 [v0, v1, v2] st f Q = pz_R dA d 113 113 [v0, v1, v2] (.int 7 :: st) f Q := pz_go (pz_so d113_111 rfl)
theorem d113_113 : decode (pz_b 113) 113 = .ok (.iaload, 1) := by decide +kernel
theorem q113_113 {dA : Nat → ClassId} {d : Nat} {st : List Value} {f : pz_F} {Q : Option Value → pz_F → Prop} {v0 v1 v2 : Value} {i : Int32} {a : Nat} : pz_R dA d 113 113 [v0, v1, v2] (.int i :: .ref a :: st) f Q = pz_o (pz_il (dA 0) f a i) (fun x => pz_R dA d 113 114 [v0, v1, v2] (.int x :: st) f Q) := pz_gil d113_113
theorem d113_114 : decode (pz_b 113) 114 = .ok (.iastore, 1) := by decide +kernel
theorem q113_114 {dA : Nat → ClassId} {d : Nat} {st : List Value} {f : pz_F} {Q : Option Value → pz_F → Prop} {v0 v1 v2 : Value} {x i : Int32} {a : Nat} : pz_R dA d 113 114 [v0, v1, v2] (.int x :: .int i :: .ref a :: st) f Q = pz_o (pz_is (dA 0) f a i x) (fun f' => pz_R dA d 113 115 [v0, v1, v2] st f' Q) := pz_gis d113_114
theorem d113_115 : decode (pz_b 113) 115 = .ok (.return_, 1) := by decide +kernel
theorem q113_115 {dA : Nat → ClassId} {d : Nat} {f : pz_F} {Q : Option Value → pz_F → Prop} {v0 v1 v2 : Value} : pz_R dA d 113 115 [v0, v1, v2] [] f Q = Q none f := pz_gr (pz_so d113_115 rfl)
theorem d113_116 : decode (pz_b 113) 116 = .ok (.aload_n 0, 1) := by decide +kernel
theorem q113_116 {dA : Nat → ClassId} {d : Nat} {st : List Value} {f : pz_F} {Q : Option Value → pz_F → Prop} {v1 v2 : Value} {x : Nat} : pz_R dA d 113 116 [.ref x, v1, v2] st f Q = pz_R dA d 113 117 [.ref x, v1, v2] (.ref x :: st) f Q := pz_go (pz_so d113_116 rfl)
theorem d113_117 : decode (pz_b 113) 117 = .ok (.getfield 72, 3) := by decide +kernel
theorem q113_117 {dA : Nat → ClassId} {d : Nat} {st : List Value} {f : pz_F} {Q : Option Value → pz_F → Prop} {v0 v1 v2 : Value} {a : Nat} : pz_R dA d 113 117 [v0, v1, v2] (.ref a :: st) f Q = pz_o (pz_gf f a 6 22) (fun v => pz_R dA d 113 120 [v0, v1, v2] (v :: st) f Q) := pz_gg d113_117 rfl
theorem d113_120 : decode (pz_b 113) 120 = .ok (.iconst 0, 1) := by decide +kernel
theorem q113_120 {dA : Nat → ClassId} {d : Nat} {st : List Value} {f : pz_F} {Q : Option Value → pz_F → Prop} {v0 v1 v2 : Value} : pz_R dA d 113 120 [v0, v1, v2] st f Q = pz_R dA d 113 121 [v0, v1, v2] (.int 0 :: st) f Q := pz_go (pz_so d113_120 rfl)
theorem d113_121 : decode (pz_b 113) 121 = .ok (.iaload, 1) := by decide +kernel
theorem q113_121 {dA : Nat → ClassId} {d : Nat} {st : List Value} {f : pz_F} {Q : Option Value → pz_F → Prop} {v0 v1 v2 : Value} {i : Int32} {a : Nat} : pz_R dA d 113 121 [v0, v1, v2] (.int i :: .ref a :: st) f Q = pz_o (pz_il (dA 0) f a i) (fun x => pz_R dA d 113 122 [v0, v1, v2] (.int x :: st) f Q) := pz_gil d113_121
theorem d113_122 : decode (pz_b 113) 122 = .ok (.iconst 4, 1) := by decide +kernel
theorem q113_122 {dA : Nat → ClassId} {d : Nat} {st : List Value} {f : pz_F} {Q : Option Value → pz_F → Prop} {v0 v1 v2 : Value} : pz_R dA d 113 122 [v0, v1, v2] st f Q = pz_R dA d 113 123 [v0, v1, v2] (.int 4 :: st) f Q := pz_go (pz_so d113_122 rfl)
theorem d113_123 : decode (pz_b 113) 123 = .ok (.if_icmp .ne 18, 3) := by decide +kernel
theorem q113_123 {dA : Nat → ClassId} {d : Nat} {st : List Value} {f : pz_F} {Q : Option Value → pz_F → Prop} {v0 v1 v2 : Value} {x y : Int32} : pz_R dA d 113 123 [v0, v1, v2] (.int y :: .int x :: st) f Q = (if x = y then pz_R dA d 113 126 [v0, v1, v2] st f Q else pz_R dA d 113 141 [v0, v1, v2] st f Q) := pz_gjn .ne d113_123 rfl
theorem d113_126 : decode (pz_b 113) 126 = .ok (.aload_n 0, 1) := by decide +kernel
theorem q113_126 {dA : Nat → ClassId} {d : Nat} {st : List Value} {f : pz_F} {Q : Option Value → pz_F → Prop} {v1 v2 : Value} {x : Nat} : pz_R dA d 113 126 [.ref x, v1, v2] st f Q = pz_R dA d 113 127 [.ref x, v1, v2] (.ref x :: st) f Q := pz_go (pz_so d113_126 rfl)
theorem d113_127 : decode (pz_b 113) 127 = .ok (.getfield 13, 3) := by decide +kernel
theorem q113_127 {dA : Nat → ClassId} {d : Nat} {st : List Value} {f : pz_F} {Q : Option Value → pz_F → Prop} {v0 v1 v2 : Value} {a : Nat} : pz_R dA d 113 127 [v0, v1, v2] (.ref a :: st) f Q = pz_o (pz_gf f a 6 2) (fun v => pz_R dA d 113 130 [v0, v1, v2] (v :: st) f Q) := pz_gg d113_127 rfl
theorem d113_130 : decode (pz_b 113) 130 = .ok (.iload_n 1, 1) := by decide +kernel
theorem q113_130 {dA : Nat → ClassId} {d : Nat} {st : List Value} {f : pz_F} {Q : Option Value → pz_F → Prop} {v0 v2 : Value} {x : Int32} : pz_R dA d 113 130 [v0, .int x, v2] st f Q = pz_R dA d 113 131 [v0, .int x, v2] (.int x :: st) f Q := pz_go (pz_so d113_130 rfl)
theorem d113_131 : decode (pz_b 113) 131 = .ok (.iaload, 1) := by decide +kernel
theorem q113_131 {dA : Nat → ClassId} {d : Nat} {st : List Value} {f : pz_F} {Q : Option Value → pz_F → Prop} {v0 v1 v2 : Value} {i : Int32} {a : Nat} : pz_R dA d 113 131 [v0, v1, v2] (.int i :: .ref a :: st) f Q = pz_o (pz_il (dA 0) f a i) (fun x => pz_R dA d 113 132 [v0, v1, v2] (.int x :: st) f Q) := pz_gil d113_131
theorem d113_132 : decode (pz_b 113) 132 = .ok (.iconst 4, 1) := by decide +kernel
theorem q113_132 {dA : Nat → ClassId} {d : Nat} {st : List Value} {f : pz_F} {Q : Option Value → pz_F → Prop} {v0 v1 v2 : Value} : pz_R dA d 113 132 [v0, v1, v2] st f Q = pz_R dA d 113 133 [v0, v1, v2] (.int 4 :: st) f Q := pz_go (pz_so d113_132 rfl)
theorem d113_133 : decode (pz_b 113) 133 = .ok (.if_icmp .ne 8, 3) := by decide +kernel
theorem q113_133 {dA : Nat → ClassId} {d : Nat} {st : List Value} {f : pz_F} {Q : Option Value → pz_F → Prop} {v0 v1 v2 : Value} {x y : Int32} : pz_R dA d 113 133 [v0, v1, v2] (.int y :: .int x :: st) f Q = (if x = y then pz_R dA d 113 136 [v0, v1, v2] st f Q else pz_R dA d 113 141 [v0, v1, v2] st f Q) := pz_gjn .ne d113_133 rfl
theorem d113_136 : decode (pz_b 113) 136 = .ok (.aload_n 0, 1) := by decide +kernel
theorem q113_136 {dA : Nat → ClassId} {d : Nat} {st : List Value} {f : pz_F} {Q : Option Value → pz_F → Prop} {v1 v2 : Value} {x : Nat} : pz_R dA d 113 136 [.ref x, v1, v2] st f Q = pz_R dA d 113 137 [.ref x, v1, v2] (.ref x :: st) f Q := pz_go (pz_so d113_136 rfl)
theorem d113_137 : decode (pz_b 113) 137 = .ok (.iload_n 1, 1) := by decide +kernel
theorem q113_137 {dA : Nat → ClassId} {d : Nat} {st : List Value} {f : pz_F} {Q : Option Value → pz_F → Prop} {v0 v2 : Value} {x : Int32} : pz_R dA d 113 137 [v0, .int x, v2] st f Q = pz_R dA d 113 138 [v0, .int x, v2] (.int x :: st) f Q := pz_go (pz_so d113_137 rfl)
theorem d113_138 : decode (pz_b 113) 138 = .ok (.invokevirtual 137, 3) := by decide +kernel
theorem q113_138 {dA : Nat → ClassId} {d : Nat} {st : List Value} {f : pz_F} {Q : Option Value → pz_F → Prop} {v0 v1 v2 : Value} {c0 : Int32} {b : Nat} (hr : st.length ≤ 4) : pz_R dA (d + 1) 113 138 [v0, v1, v2] (.int c0 :: .ref b :: st) f Q = pz_o (pz_gu f b 6) (fun _ => pz_C dA d 110 [.ref b, .int c0] f (fun r f' => pz_R dA (d + 1) 113 141 [v0, v1, v2] (r.toList ++ st) f' Q)) := pz_gcv (As := [.int c0]) d113_138 rfl rfl rfl hr
theorem d113_141 : decode (pz_b 113) 141 = .ok (.aload_n 0, 1) := by decide +kernel
theorem q113_141 {dA : Nat → ClassId} {d : Nat} {st : List Value} {f : pz_F} {Q : Option Value → pz_F → Prop} {v1 v2 : Value} {x : Nat} : pz_R dA d 113 141 [.ref x, v1, v2] st f Q = pz_R dA d 113 142 [.ref x, v1, v2] (.ref x :: st) f Q := pz_go (pz_so d113_141 rfl)
theorem d113_142 : decode (pz_b 113) 142 = .ok (.iload_n 1, 1) := by decide +kernel
theorem q113_142 {dA : Nat → ClassId} {d : Nat} {st : List Value} {f : pz_F} {Q : Option Value → pz_F → Prop} {v0 v2 : Value} {x : Int32} : pz_R dA d 113 142 [v0, .int x, v2] st f Q = pz_R dA d 113 143 [v0, .int x, v2] (.int x :: st) f Q := pz_go (pz_so d113_142 rfl)
theorem d113_143 : decode (pz_b 113) 143 = .ok (.invokevirtual 140, 3) := by decide +kernel
theorem q113_143 {dA : Nat → ClassId} {d : Nat} {st : List Value} {f : pz_F} {Q : Option Value → pz_F → Prop} {v0 v1 v2 : Value} {c0 : Int32} {b : Nat} (hr : st.length ≤ 4) : pz_R dA (d + 1) 113 143 [v0, v1, v2] (.int c0 :: .ref b :: st) f Q = pz_o (pz_gu f b 6) (fun _ => pz_C dA d 89 [.ref b, .int c0] f (fun r f' => pz_R dA (d + 1) 113 146 [v0, v1, v2] (r.toList ++ st) f' Q)) := pz_gcv (As := [.int c0]) d113_143 rfl rfl rfl hr
theorem d113_146 : decode (pz_b 113) 146 = .ok (.ifCond .ne 4, 3) := by decide +kernel
theorem q113_146 {dA : Nat → ClassId} {d : Nat} {st : List Value} {f : pz_F} {Q : Option Value → pz_F → Prop} {v0 v1 v2 : Value} {x : Int32} : pz_R dA d 113 146 [v0, v1, v2] (.int x :: st) f Q = (if x = 0 then pz_R dA d 113 149 [v0, v1, v2] st f Q else pz_R dA d 113 150 [v0, v1, v2] st f Q) := pz_gj1 .ne d113_146 rfl
theorem d113_149 : decode (pz_b 113) 149 = .ok (.return_, 1) := by decide +kernel
theorem q113_149 {dA : Nat → ClassId} {d : Nat} {f : pz_F} {Q : Option Value → pz_F → Prop} {v0 v1 v2 : Value} : pz_R dA d 113 149 [v0, v1, v2] [] f Q = Q none f := pz_gr (pz_so d113_149 rfl)
theorem d113_150 : decode (pz_b 113) 150 = .ok (.aload_n 0, 1) := by decide +kernel
theorem q113_150 {dA : Nat → ClassId} {d : Nat} {st : List Value} {f : pz_F} {Q : Option Value → pz_F → Prop} {v1 v2 : Value} {x : Nat} : pz_R dA d 113 150 [.ref x, v1, v2] st f Q = pz_R dA d 113 151 [.ref x, v1, v2] (.ref x :: st) f Q := pz_go (pz_so d113_150 rfl)
theorem d113_151 : decode (pz_b 113) 151 = .ok (.getfield 72, 3) := by decide +kernel
theorem q113_151 {dA : Nat → ClassId} {d : Nat} {st : List Value} {f : pz_F} {Q : Option Value → pz_F → Prop} {v0 v1 v2 : Value} {a : Nat} : pz_R dA d 113 151 [v0, v1, v2] (.ref a :: st) f Q = pz_o (pz_gf f a 6 22) (fun v => pz_R dA d 113 154 [v0, v1, v2] (v :: st) f Q) := pz_gg d113_151 rfl
theorem d113_154 : decode (pz_b 113) 154 = .ok (.iconst 0, 1) := by decide +kernel
theorem q113_154 {dA : Nat → ClassId} {d : Nat} {st : List Value} {f : pz_F} {Q : Option Value → pz_F → Prop} {v0 v1 v2 : Value} : pz_R dA d 113 154 [v0, v1, v2] st f Q = pz_R dA d 113 155 [v0, v1, v2] (.int 0 :: st) f Q := pz_go (pz_so d113_154 rfl)
theorem d113_155 : decode (pz_b 113) 155 = .ok (.iaload, 1) := by decide +kernel
theorem q113_155 {dA : Nat → ClassId} {d : Nat} {st : List Value} {f : pz_F} {Q : Option Value → pz_F → Prop} {v0 v1 v2 : Value} {i : Int32} {a : Nat} : pz_R dA d 113 155 [v0, v1, v2] (.int i :: .ref a :: st) f Q = pz_o (pz_il (dA 0) f a i) (fun x => pz_R dA d 113 156 [v0, v1, v2] (.int x :: st) f Q) := pz_gil d113_155
theorem d113_156 : decode (pz_b 113) 156 = .ok (.ifCond .ne 15, 3) := by decide +kernel
theorem q113_156 {dA : Nat → ClassId} {d : Nat} {st : List Value} {f : pz_F} {Q : Option Value → pz_F → Prop} {v0 v1 v2 : Value} {x : Int32} : pz_R dA d 113 156 [v0, v1, v2] (.int x :: st) f Q = (if x = 0 then pz_R dA d 113 159 [v0, v1, v2] st f Q else pz_R dA d 113 171 [v0, v1, v2] st f Q) := pz_gj1 .ne d113_156 rfl
theorem d113_159 : decode (pz_b 113) 159 = .ok (.aload_n 0, 1) := by decide +kernel
theorem q113_159 {dA : Nat → ClassId} {d : Nat} {st : List Value} {f : pz_F} {Q : Option Value → pz_F → Prop} {v1 v2 : Value} {x : Nat} : pz_R dA d 113 159 [.ref x, v1, v2] st f Q = pz_R dA d 113 160 [.ref x, v1, v2] (.ref x :: st) f Q := pz_go (pz_so d113_159 rfl)
theorem d113_160 : decode (pz_b 113) 160 = .ok (.iload_n 1, 1) := by decide +kernel
theorem q113_160 {dA : Nat → ClassId} {d : Nat} {st : List Value} {f : pz_F} {Q : Option Value → pz_F → Prop} {v0 v2 : Value} {x : Int32} : pz_R dA d 113 160 [v0, .int x, v2] st f Q = pz_R dA d 113 161 [v0, .int x, v2] (.int x :: st) f Q := pz_go (pz_so d113_160 rfl)
theorem d113_161 : decode (pz_b 113) 161 = .ok (.iload_n 2, 1) := by decide +kernel
theorem q113_161 {dA : Nat → ClassId} {d : Nat} {st : List Value} {f : pz_F} {Q : Option Value → pz_F → Prop} {v0 v1 : Value} {x : Int32} : pz_R dA d 113 161 [v0, v1, .int x] st f Q = pz_R dA d 113 162 [v0, v1, .int x] (.int x :: st) f Q := pz_go (pz_so d113_161 rfl)
theorem d113_162 : decode (pz_b 113) 162 = .ok (.aload_n 0, 1) := by decide +kernel
theorem q113_162 {dA : Nat → ClassId} {d : Nat} {st : List Value} {f : pz_F} {Q : Option Value → pz_F → Prop} {v1 v2 : Value} {x : Nat} : pz_R dA d 113 162 [.ref x, v1, v2] st f Q = pz_R dA d 113 163 [.ref x, v1, v2] (.ref x :: st) f Q := pz_go (pz_so d113_162 rfl)
theorem d113_163 : decode (pz_b 113) 163 = .ok (.getfield 72, 3) := by decide +kernel
theorem q113_163 {dA : Nat → ClassId} {d : Nat} {st : List Value} {f : pz_F} {Q : Option Value → pz_F → Prop} {v0 v1 v2 : Value} {a : Nat} : pz_R dA d 113 163 [v0, v1, v2] (.ref a :: st) f Q = pz_o (pz_gf f a 6 22) (fun v => pz_R dA d 113 166 [v0, v1, v2] (v :: st) f Q) := pz_gg d113_163 rfl
theorem d113_166 : decode (pz_b 113) 166 = .ok (.iconst 3, 1) := by decide +kernel
theorem q113_166 {dA : Nat → ClassId} {d : Nat} {st : List Value} {f : pz_F} {Q : Option Value → pz_F → Prop} {v0 v1 v2 : Value} : pz_R dA d 113 166 [v0, v1, v2] st f Q = pz_R dA d 113 167 [v0, v1, v2] (.int 3 :: st) f Q := pz_go (pz_so d113_166 rfl)
theorem d113_167 : decode (pz_b 113) 167 = .ok (.iaload, 1) := by decide +kernel
theorem q113_167 {dA : Nat → ClassId} {d : Nat} {st : List Value} {f : pz_F} {Q : Option Value → pz_F → Prop} {v0 v1 v2 : Value} {i : Int32} {a : Nat} : pz_R dA d 113 167 [v0, v1, v2] (.int i :: .ref a :: st) f Q = pz_o (pz_il (dA 0) f a i) (fun x => pz_R dA d 113 168 [v0, v1, v2] (.int x :: st) f Q) := pz_gil d113_167
theorem d113_168 : decode (pz_b 113) 168 = .ok (.invokevirtual 143, 3) := by decide +kernel
theorem q113_168 {dA : Nat → ClassId} {d : Nat} {st : List Value} {f : pz_F} {Q : Option Value → pz_F → Prop} {v0 v1 v2 : Value} {c0 : Int32} {c1 : Int32} {c2 : Int32} {b : Nat} (hr : st.length ≤ 4) : pz_R dA (d + 1) 113 168 [v0, v1, v2] (.int c2 :: .int c1 :: .int c0 :: .ref b :: st) f Q = pz_o (pz_gu f b 6) (fun _ => pz_C dA d 103 [.ref b, .int c0, .int c1, .int c2] f (fun r f' => pz_R dA (d + 1) 113 171 [v0, v1, v2] (r.toList ++ st) f' Q)) := pz_gcv (As := [.int c0, .int c1, .int c2]) d113_168 rfl rfl rfl hr
theorem d113_171 : decode (pz_b 113) 171 = .ok (.aload_n 0, 1) := by decide +kernel
theorem q113_171 {dA : Nat → ClassId} {d : Nat} {st : List Value} {f : pz_F} {Q : Option Value → pz_F → Prop} {v1 v2 : Value} {x : Nat} : pz_R dA d 113 171 [.ref x, v1, v2] st f Q = pz_R dA d 113 172 [.ref x, v1, v2] (.ref x :: st) f Q := pz_go (pz_so d113_171 rfl)
theorem d113_172 : decode (pz_b 113) 172 = .ok (.getfield 72, 3) := by decide +kernel
theorem q113_172 {dA : Nat → ClassId} {d : Nat} {st : List Value} {f : pz_F} {Q : Option Value → pz_F → Prop} {v0 v1 v2 : Value} {a : Nat} : pz_R dA d 113 172 [v0, v1, v2] (.ref a :: st) f Q = pz_o (pz_gf f a 6 22) (fun v => pz_R dA d 113 175 [v0, v1, v2] (v :: st) f Q) := pz_gg d113_172 rfl
theorem d113_175 : decode (pz_b 113) 175 = .ok (.iconst 0, 1) := by decide +kernel
theorem q113_175 {dA : Nat → ClassId} {d : Nat} {st : List Value} {f : pz_F} {Q : Option Value → pz_F → Prop} {v0 v1 v2 : Value} : pz_R dA d 113 175 [v0, v1, v2] st f Q = pz_R dA d 113 176 [v0, v1, v2] (.int 0 :: st) f Q := pz_go (pz_so d113_175 rfl)
theorem d113_176 : decode (pz_b 113) 176 = .ok (.iaload, 1) := by decide +kernel
theorem q113_176 {dA : Nat → ClassId} {d : Nat} {st : List Value} {f : pz_F} {Q : Option Value → pz_F → Prop} {v0 v1 v2 : Value} {i : Int32} {a : Nat} : pz_R dA d 113 176 [v0, v1, v2] (.int i :: .ref a :: st) f Q = pz_o (pz_il (dA 0) f a i) (fun x => pz_R dA d 113 177 [v0, v1, v2] (.int x :: st) f Q) := pz_gil d113_176
theorem d113_177 : decode (pz_b 113) 177 = .ok (.iconst 3, 1) := by decide +kernel
theorem q113_177 {dA : Nat → ClassId} {d : Nat} {st : List Value} {f : pz_F} {Q : Option Value → pz_F → Prop} {v0 v1 v2 : Value} : pz_R dA d 113 177 [v0, v1, v2] st f Q = pz_R dA d 113 178 [v0, v1, v2] (.int 3 :: st) f Q := pz_go (pz_so d113_177 rfl)
theorem d113_178 : decode (pz_b 113) 178 = .ok (.if_icmp .ne 58, 3) := by decide +kernel
theorem q113_178 {dA : Nat → ClassId} {d : Nat} {st : List Value} {f : pz_F} {Q : Option Value → pz_F → Prop} {v0 v1 v2 : Value} {x y : Int32} : pz_R dA d 113 178 [v0, v1, v2] (.int y :: .int x :: st) f Q = (if x = y then pz_R dA d 113 181 [v0, v1, v2] st f Q else pz_R dA d 113 236 [v0, v1, v2] st f Q) := pz_gjn .ne d113_178 rfl
theorem d113_181 : decode (pz_b 113) 181 = .ok (.aload_n 0, 1) := by decide +kernel
theorem q113_181 {dA : Nat → ClassId} {d : Nat} {st : List Value} {f : pz_F} {Q : Option Value → pz_F → Prop} {v1 v2 : Value} {x : Nat} : pz_R dA d 113 181 [.ref x, v1, v2] st f Q = pz_R dA d 113 182 [.ref x, v1, v2] (.ref x :: st) f Q := pz_go (pz_so d113_181 rfl)
theorem d113_182 : decode (pz_b 113) 182 = .ok (.getfield 29, 3) := by decide +kernel
theorem q113_182 {dA : Nat → ClassId} {d : Nat} {st : List Value} {f : pz_F} {Q : Option Value → pz_F → Prop} {v0 v1 v2 : Value} {a : Nat} : pz_R dA d 113 182 [v0, v1, v2] (.ref a :: st) f Q = pz_o (pz_gf f a 6 7) (fun v => pz_R dA d 113 185 [v0, v1, v2] (v :: st) f Q) := pz_gg d113_182 rfl
theorem d113_185 : decode (pz_b 113) 185 = .ok (.bipush 6, 2) := by decide +kernel
theorem q113_185 {dA : Nat → ClassId} {d : Nat} {st : List Value} {f : pz_F} {Q : Option Value → pz_F → Prop} {v0 v1 v2 : Value} : pz_R dA d 113 185 [v0, v1, v2] st f Q = pz_R dA d 113 187 [v0, v1, v2] (.int 6 :: st) f Q := pz_go (pz_so d113_185 rfl)
theorem d113_187 : decode (pz_b 113) 187 = .ok (.iload_n 1, 1) := by decide +kernel
theorem q113_187 {dA : Nat → ClassId} {d : Nat} {st : List Value} {f : pz_F} {Q : Option Value → pz_F → Prop} {v0 v2 : Value} {x : Int32} : pz_R dA d 113 187 [v0, .int x, v2] st f Q = pz_R dA d 113 188 [v0, .int x, v2] (.int x :: st) f Q := pz_go (pz_so d113_187 rfl)
theorem d113_188 : decode (pz_b 113) 188 = .ok (.imul, 1) := by decide +kernel
theorem q113_188 {dA : Nat → ClassId} {d : Nat} {st : List Value} {f : pz_F} {Q : Option Value → pz_F → Prop} {v0 v1 v2 : Value} {x y : Int32} : pz_R dA d 113 188 [v0, v1, v2] (.int y :: .int x :: st) f Q = pz_R dA d 113 189 [v0, v1, v2] (.int (x * y) :: st) f Q := pz_go (pz_so d113_188 rfl)
theorem d113_189 : decode (pz_b 113) 189 = .ok (.aload_n 0, 1) := by decide +kernel
theorem q113_189 {dA : Nat → ClassId} {d : Nat} {st : List Value} {f : pz_F} {Q : Option Value → pz_F → Prop} {v1 v2 : Value} {x : Nat} : pz_R dA d 113 189 [.ref x, v1, v2] st f Q = pz_R dA d 113 190 [.ref x, v1, v2] (.ref x :: st) f Q := pz_go (pz_so d113_189 rfl)
theorem d113_190 : decode (pz_b 113) 190 = .ok (.getfield 72, 3) := by decide +kernel
theorem q113_190 {dA : Nat → ClassId} {d : Nat} {st : List Value} {f : pz_F} {Q : Option Value → pz_F → Prop} {v0 v1 v2 : Value} {a : Nat} : pz_R dA d 113 190 [v0, v1, v2] (.ref a :: st) f Q = pz_o (pz_gf f a 6 22) (fun v => pz_R dA d 113 193 [v0, v1, v2] (v :: st) f Q) := pz_gg d113_190 rfl
theorem d113_193 : decode (pz_b 113) 193 = .ok (.iconst 3, 1) := by decide +kernel
theorem q113_193 {dA : Nat → ClassId} {d : Nat} {st : List Value} {f : pz_F} {Q : Option Value → pz_F → Prop} {v0 v1 v2 : Value} : pz_R dA d 113 193 [v0, v1, v2] st f Q = pz_R dA d 113 194 [v0, v1, v2] (.int 3 :: st) f Q := pz_go (pz_so d113_193 rfl)
theorem d113_194 : decode (pz_b 113) 194 = .ok (.iaload, 1) := by decide +kernel
theorem q113_194 {dA : Nat → ClassId} {d : Nat} {st : List Value} {f : pz_F} {Q : Option Value → pz_F → Prop} {v0 v1 v2 : Value} {i : Int32} {a : Nat} : pz_R dA d 113 194 [v0, v1, v2] (.int i :: .ref a :: st) f Q = pz_o (pz_il (dA 0) f a i) (fun x => pz_R dA d 113 195 [v0, v1, v2] (.int x :: st) f Q) := pz_gil d113_194
theorem d113_195 : decode (pz_b 113) 195 = .ok (.iadd, 1) := by decide +kernel
theorem q113_195 {dA : Nat → ClassId} {d : Nat} {st : List Value} {f : pz_F} {Q : Option Value → pz_F → Prop} {v0 v1 v2 : Value} {x y : Int32} : pz_R dA d 113 195 [v0, v1, v2] (.int y :: .int x :: st) f Q = pz_R dA d 113 196 [v0, v1, v2] (.int (x + y) :: st) f Q := pz_go (pz_so d113_195 rfl)
theorem d113_196 : decode (pz_b 113) 196 = .ok (.iaload, 1) := by decide +kernel
theorem q113_196 {dA : Nat → ClassId} {d : Nat} {st : List Value} {f : pz_F} {Q : Option Value → pz_F → Prop} {v0 v1 v2 : Value} {i : Int32} {a : Nat} : pz_R dA d 113 196 [v0, v1, v2] (.int i :: .ref a :: st) f Q = pz_o (pz_il (dA 0) f a i) (fun x => pz_R dA d 113 197 [v0, v1, v2] (.int x :: st) f Q) := pz_gil d113_196
theorem d113_197 : decode (pz_b 113) 197 = .ok (.iconst 1, 1) := by decide +kernel
theorem q113_197 {dA : Nat → ClassId} {d : Nat} {st : List Value} {f : pz_F} {Q : Option Value → pz_F → Prop} {v0 v1 v2 : Value} : pz_R dA d 113 197 [v0, v1, v2] st f Q = pz_R dA d 113 198 [v0, v1, v2] (.int 1 :: st) f Q := pz_go (pz_so d113_197 rfl)
theorem d113_198 : decode (pz_b 113) 198 = .ok (.if_icmp .ne 38, 3) := by decide +kernel
theorem q113_198 {dA : Nat → ClassId} {d : Nat} {st : List Value} {f : pz_F} {Q : Option Value → pz_F → Prop} {v0 v1 v2 : Value} {x y : Int32} : pz_R dA d 113 198 [v0, v1, v2] (.int y :: .int x :: st) f Q = (if x = y then pz_R dA d 113 201 [v0, v1, v2] st f Q else pz_R dA d 113 236 [v0, v1, v2] st f Q) := pz_gjn .ne d113_198 rfl
theorem d113_201 : decode (pz_b 113) 201 = .ok (.aload_n 0, 1) := by decide +kernel
theorem q113_201 {dA : Nat → ClassId} {d : Nat} {st : List Value} {f : pz_F} {Q : Option Value → pz_F → Prop} {v1 v2 : Value} {x : Nat} : pz_R dA d 113 201 [.ref x, v1, v2] st f Q = pz_R dA d 113 202 [.ref x, v1, v2] (.ref x :: st) f Q := pz_go (pz_so d113_201 rfl)
theorem d113_202 : decode (pz_b 113) 202 = .ok (.getfield 32, 3) := by decide +kernel
theorem q113_202 {dA : Nat → ClassId} {d : Nat} {st : List Value} {f : pz_F} {Q : Option Value → pz_F → Prop} {v0 v1 v2 : Value} {a : Nat} : pz_R dA d 113 202 [v0, v1, v2] (.ref a :: st) f Q = pz_o (pz_gf f a 6 8) (fun v => pz_R dA d 113 205 [v0, v1, v2] (v :: st) f Q) := pz_gg d113_202 rfl
theorem d113_205 : decode (pz_b 113) 205 = .ok (.bipush 6, 2) := by decide +kernel
theorem q113_205 {dA : Nat → ClassId} {d : Nat} {st : List Value} {f : pz_F} {Q : Option Value → pz_F → Prop} {v0 v1 v2 : Value} : pz_R dA d 113 205 [v0, v1, v2] st f Q = pz_R dA d 113 207 [v0, v1, v2] (.int 6 :: st) f Q := pz_go (pz_so d113_205 rfl)
theorem d113_207 : decode (pz_b 113) 207 = .ok (.iload_n 1, 1) := by decide +kernel
theorem q113_207 {dA : Nat → ClassId} {d : Nat} {st : List Value} {f : pz_F} {Q : Option Value → pz_F → Prop} {v0 v2 : Value} {x : Int32} : pz_R dA d 113 207 [v0, .int x, v2] st f Q = pz_R dA d 113 208 [v0, .int x, v2] (.int x :: st) f Q := pz_go (pz_so d113_207 rfl)
theorem d113_208 : decode (pz_b 113) 208 = .ok (.imul, 1) := by decide +kernel
theorem q113_208 {dA : Nat → ClassId} {d : Nat} {st : List Value} {f : pz_F} {Q : Option Value → pz_F → Prop} {v0 v1 v2 : Value} {x y : Int32} : pz_R dA d 113 208 [v0, v1, v2] (.int y :: .int x :: st) f Q = pz_R dA d 113 209 [v0, v1, v2] (.int (x * y) :: st) f Q := pz_go (pz_so d113_208 rfl)
theorem d113_209 : decode (pz_b 113) 209 = .ok (.aload_n 0, 1) := by decide +kernel
theorem q113_209 {dA : Nat → ClassId} {d : Nat} {st : List Value} {f : pz_F} {Q : Option Value → pz_F → Prop} {v1 v2 : Value} {x : Nat} : pz_R dA d 113 209 [.ref x, v1, v2] st f Q = pz_R dA d 113 210 [.ref x, v1, v2] (.ref x :: st) f Q := pz_go (pz_so d113_209 rfl)
theorem d113_210 : decode (pz_b 113) 210 = .ok (.getfield 72, 3) := by decide +kernel
theorem q113_210 {dA : Nat → ClassId} {d : Nat} {st : List Value} {f : pz_F} {Q : Option Value → pz_F → Prop} {v0 v1 v2 : Value} {a : Nat} : pz_R dA d 113 210 [v0, v1, v2] (.ref a :: st) f Q = pz_o (pz_gf f a 6 22) (fun v => pz_R dA d 113 213 [v0, v1, v2] (v :: st) f Q) := pz_gg d113_210 rfl
theorem d113_213 : decode (pz_b 113) 213 = .ok (.iconst 3, 1) := by decide +kernel
theorem q113_213 {dA : Nat → ClassId} {d : Nat} {st : List Value} {f : pz_F} {Q : Option Value → pz_F → Prop} {v0 v1 v2 : Value} : pz_R dA d 113 213 [v0, v1, v2] st f Q = pz_R dA d 113 214 [v0, v1, v2] (.int 3 :: st) f Q := pz_go (pz_so d113_213 rfl)
theorem d113_214 : decode (pz_b 113) 214 = .ok (.iaload, 1) := by decide +kernel
theorem q113_214 {dA : Nat → ClassId} {d : Nat} {st : List Value} {f : pz_F} {Q : Option Value → pz_F → Prop} {v0 v1 v2 : Value} {i : Int32} {a : Nat} : pz_R dA d 113 214 [v0, v1, v2] (.int i :: .ref a :: st) f Q = pz_o (pz_il (dA 0) f a i) (fun x => pz_R dA d 113 215 [v0, v1, v2] (.int x :: st) f Q) := pz_gil d113_214
theorem d113_215 : decode (pz_b 113) 215 = .ok (.iadd, 1) := by decide +kernel
theorem q113_215 {dA : Nat → ClassId} {d : Nat} {st : List Value} {f : pz_F} {Q : Option Value → pz_F → Prop} {v0 v1 v2 : Value} {x y : Int32} : pz_R dA d 113 215 [v0, v1, v2] (.int y :: .int x :: st) f Q = pz_R dA d 113 216 [v0, v1, v2] (.int (x + y) :: st) f Q := pz_go (pz_so d113_215 rfl)
theorem d113_216 : decode (pz_b 113) 216 = .ok (.iaload, 1) := by decide +kernel
theorem q113_216 {dA : Nat → ClassId} {d : Nat} {st : List Value} {f : pz_F} {Q : Option Value → pz_F → Prop} {v0 v1 v2 : Value} {i : Int32} {a : Nat} : pz_R dA d 113 216 [v0, v1, v2] (.int i :: .ref a :: st) f Q = pz_o (pz_il (dA 0) f a i) (fun x => pz_R dA d 113 217 [v0, v1, v2] (.int x :: st) f Q) := pz_gil d113_216
theorem d113_217 : decode (pz_b 113) 217 = .ok (.iload_n 2, 1) := by decide +kernel
theorem q113_217 {dA : Nat → ClassId} {d : Nat} {st : List Value} {f : pz_F} {Q : Option Value → pz_F → Prop} {v0 v1 : Value} {x : Int32} : pz_R dA d 113 217 [v0, v1, .int x] st f Q = pz_R dA d 113 218 [v0, v1, .int x] (.int x :: st) f Q := pz_go (pz_so d113_217 rfl)
theorem d113_218 : decode (pz_b 113) 218 = .ok (.if_icmp .ne 18, 3) := by decide +kernel
theorem q113_218 {dA : Nat → ClassId} {d : Nat} {st : List Value} {f : pz_F} {Q : Option Value → pz_F → Prop} {v0 v1 v2 : Value} {x y : Int32} : pz_R dA d 113 218 [v0, v1, v2] (.int y :: .int x :: st) f Q = (if x = y then pz_R dA d 113 221 [v0, v1, v2] st f Q else pz_R dA d 113 236 [v0, v1, v2] st f Q) := pz_gjn .ne d113_218 rfl
theorem d113_221 : decode (pz_b 113) 221 = .ok (.aload_n 0, 1) := by decide +kernel
theorem q113_221 {dA : Nat → ClassId} {d : Nat} {st : List Value} {f : pz_F} {Q : Option Value → pz_F → Prop} {v1 v2 : Value} {x : Nat} : pz_R dA d 113 221 [.ref x, v1, v2] st f Q = pz_R dA d 113 222 [.ref x, v1, v2] (.ref x :: st) f Q := pz_go (pz_so d113_221 rfl)
theorem d113_222 : decode (pz_b 113) 222 = .ok (.bipush 6, 2) := by decide +kernel
theorem q113_222 {dA : Nat → ClassId} {d : Nat} {st : List Value} {f : pz_F} {Q : Option Value → pz_F → Prop} {v0 v1 v2 : Value} : pz_R dA d 113 222 [v0, v1, v2] st f Q = pz_R dA d 113 224 [v0, v1, v2] (.int 6 :: st) f Q := pz_go (pz_so d113_222 rfl)
theorem d113_224 : decode (pz_b 113) 224 = .ok (.iload_n 1, 1) := by decide +kernel
theorem q113_224 {dA : Nat → ClassId} {d : Nat} {st : List Value} {f : pz_F} {Q : Option Value → pz_F → Prop} {v0 v2 : Value} {x : Int32} : pz_R dA d 113 224 [v0, .int x, v2] st f Q = pz_R dA d 113 225 [v0, .int x, v2] (.int x :: st) f Q := pz_go (pz_so d113_224 rfl)
theorem d113_225 : decode (pz_b 113) 225 = .ok (.imul, 1) := by decide +kernel
theorem q113_225 {dA : Nat → ClassId} {d : Nat} {st : List Value} {f : pz_F} {Q : Option Value → pz_F → Prop} {v0 v1 v2 : Value} {x y : Int32} : pz_R dA d 113 225 [v0, v1, v2] (.int y :: .int x :: st) f Q = pz_R dA d 113 226 [v0, v1, v2] (.int (x * y) :: st) f Q := pz_go (pz_so d113_225 rfl)
theorem d113_226 : decode (pz_b 113) 226 = .ok (.aload_n 0, 1) := by decide +kernel
theorem q113_226 {dA : Nat → ClassId} {d : Nat} {st : List Value} {f : pz_F} {Q : Option Value → pz_F → Prop} {v1 v2 : Value} {x : Nat} : pz_R dA d 113 226 [.ref x, v1, v2] st f Q = pz_R dA d 113 227 [.ref x, v1, v2] (.ref x :: st) f Q := pz_go (pz_so d113_226 rfl)
theorem d113_227 : decode (pz_b 113) 227 = .ok (.getfield 72, 3) := by decide +kernel
theorem q113_227 {dA : Nat → ClassId} {d : Nat} {st : List Value} {f : pz_F} {Q : Option Value → pz_F → Prop} {v0 v1 v2 : Value} {a : Nat} : pz_R dA d 113 227 [v0, v1, v2] (.ref a :: st) f Q = pz_o (pz_gf f a 6 22) (fun v => pz_R dA d 113 230 [v0, v1, v2] (v :: st) f Q) := pz_gg d113_227 rfl
theorem d113_230 : decode (pz_b 113) 230 = .ok (.iconst 3, 1) := by decide +kernel
theorem q113_230 {dA : Nat → ClassId} {d : Nat} {st : List Value} {f : pz_F} {Q : Option Value → pz_F → Prop} {v0 v1 v2 : Value} : pz_R dA d 113 230 [v0, v1, v2] st f Q = pz_R dA d 113 231 [v0, v1, v2] (.int 3 :: st) f Q := pz_go (pz_so d113_230 rfl)
theorem d113_231 : decode (pz_b 113) 231 = .ok (.iaload, 1) := by decide +kernel
theorem q113_231 {dA : Nat → ClassId} {d : Nat} {st : List Value} {f : pz_F} {Q : Option Value → pz_F → Prop} {v0 v1 v2 : Value} {i : Int32} {a : Nat} : pz_R dA d 113 231 [v0, v1, v2] (.int i :: .ref a :: st) f Q = pz_o (pz_il (dA 0) f a i) (fun x => pz_R dA d 113 232 [v0, v1, v2] (.int x :: st) f Q) := pz_gil d113_231
theorem d113_232 : decode (pz_b 113) 232 = .ok (.iadd, 1) := by decide +kernel
theorem q113_232 {dA : Nat → ClassId} {d : Nat} {st : List Value} {f : pz_F} {Q : Option Value → pz_F → Prop} {v0 v1 v2 : Value} {x y : Int32} : pz_R dA d 113 232 [v0, v1, v2] (.int y :: .int x :: st) f Q = pz_R dA d 113 233 [v0, v1, v2] (.int (x + y) :: st) f Q := pz_go (pz_so d113_232 rfl)
theorem d113_233 : decode (pz_b 113) 233 = .ok (.invokevirtual 147, 3) := by decide +kernel
theorem q113_233 {dA : Nat → ClassId} {d : Nat} {st : List Value} {f : pz_F} {Q : Option Value → pz_F → Prop} {v0 v1 v2 : Value} {c0 : Int32} {b : Nat} (hr : st.length ≤ 4) : pz_R dA (d + 1) 113 233 [v0, v1, v2] (.int c0 :: .ref b :: st) f Q = pz_o (pz_gu f b 6) (fun _ => pz_C dA d 104 [.ref b, .int c0] f (fun r f' => pz_R dA (d + 1) 113 236 [v0, v1, v2] (r.toList ++ st) f' Q)) := pz_gcv (As := [.int c0]) d113_233 rfl rfl rfl hr
theorem d113_236 : decode (pz_b 113) 236 = .ok (.aload_n 0, 1) := by decide +kernel
theorem q113_236 {dA : Nat → ClassId} {d : Nat} {st : List Value} {f : pz_F} {Q : Option Value → pz_F → Prop} {v1 v2 : Value} {x : Nat} : pz_R dA d 113 236 [.ref x, v1, v2] st f Q = pz_R dA d 113 237 [.ref x, v1, v2] (.ref x :: st) f Q := pz_go (pz_so d113_236 rfl)
theorem d113_237 : decode (pz_b 113) 237 = .ok (.getfield 72, 3) := by decide +kernel
theorem q113_237 {dA : Nat → ClassId} {d : Nat} {st : List Value} {f : pz_F} {Q : Option Value → pz_F → Prop} {v0 v1 v2 : Value} {a : Nat} : pz_R dA d 113 237 [v0, v1, v2] (.ref a :: st) f Q = pz_o (pz_gf f a 6 22) (fun v => pz_R dA d 113 240 [v0, v1, v2] (v :: st) f Q) := pz_gg d113_237 rfl
theorem d113_240 : decode (pz_b 113) 240 = .ok (.iconst 0, 1) := by decide +kernel
theorem q113_240 {dA : Nat → ClassId} {d : Nat} {st : List Value} {f : pz_F} {Q : Option Value → pz_F → Prop} {v0 v1 v2 : Value} : pz_R dA d 113 240 [v0, v1, v2] st f Q = pz_R dA d 113 241 [v0, v1, v2] (.int 0 :: st) f Q := pz_go (pz_so d113_240 rfl)
theorem d113_241 : decode (pz_b 113) 241 = .ok (.iaload, 1) := by decide +kernel
theorem q113_241 {dA : Nat → ClassId} {d : Nat} {st : List Value} {f : pz_F} {Q : Option Value → pz_F → Prop} {v0 v1 v2 : Value} {i : Int32} {a : Nat} : pz_R dA d 113 241 [v0, v1, v2] (.int i :: .ref a :: st) f Q = pz_o (pz_il (dA 0) f a i) (fun x => pz_R dA d 113 242 [v0, v1, v2] (.int x :: st) f Q) := pz_gil d113_241
theorem d113_242 : decode (pz_b 113) 242 = .ok (.iconst 4, 1) := by decide +kernel
theorem q113_242 {dA : Nat → ClassId} {d : Nat} {st : List Value} {f : pz_F} {Q : Option Value → pz_F → Prop} {v0 v1 v2 : Value} : pz_R dA d 113 242 [v0, v1, v2] st f Q = pz_R dA d 113 243 [v0, v1, v2] (.int 4 :: st) f Q := pz_go (pz_so d113_242 rfl)
theorem d113_243 : decode (pz_b 113) 243 = .ok (.if_icmp .ne 8, 3) := by decide +kernel
theorem q113_243 {dA : Nat → ClassId} {d : Nat} {st : List Value} {f : pz_F} {Q : Option Value → pz_F → Prop} {v0 v1 v2 : Value} {x y : Int32} : pz_R dA d 113 243 [v0, v1, v2] (.int y :: .int x :: st) f Q = (if x = y then pz_R dA d 113 246 [v0, v1, v2] st f Q else pz_R dA d 113 251 [v0, v1, v2] st f Q) := pz_gjn .ne d113_243 rfl
theorem d113_246 : decode (pz_b 113) 246 = .ok (.aload_n 0, 1) := by decide +kernel
theorem q113_246 {dA : Nat → ClassId} {d : Nat} {st : List Value} {f : pz_F} {Q : Option Value → pz_F → Prop} {v1 v2 : Value} {x : Nat} : pz_R dA d 113 246 [.ref x, v1, v2] st f Q = pz_R dA d 113 247 [.ref x, v1, v2] (.ref x :: st) f Q := pz_go (pz_so d113_246 rfl)
theorem d113_247 : decode (pz_b 113) 247 = .ok (.iload_n 1, 1) := by decide +kernel
theorem q113_247 {dA : Nat → ClassId} {d : Nat} {st : List Value} {f : pz_F} {Q : Option Value → pz_F → Prop} {v0 v2 : Value} {x : Int32} : pz_R dA d 113 247 [v0, .int x, v2] st f Q = pz_R dA d 113 248 [v0, .int x, v2] (.int x :: st) f Q := pz_go (pz_so d113_247 rfl)
theorem d113_248 : decode (pz_b 113) 248 = .ok (.invokevirtual 137, 3) := by decide +kernel
theorem q113_248 {dA : Nat → ClassId} {d : Nat} {st : List Value} {f : pz_F} {Q : Option Value → pz_F → Prop} {v0 v1 v2 : Value} {c0 : Int32} {b : Nat} (hr : st.length ≤ 4) : pz_R dA (d + 1) 113 248 [v0, v1, v2] (.int c0 :: .ref b :: st) f Q = pz_o (pz_gu f b 6) (fun _ => pz_C dA d 110 [.ref b, .int c0] f (fun r f' => pz_R dA (d + 1) 113 251 [v0, v1, v2] (r.toList ++ st) f' Q)) := pz_gcv (As := [.int c0]) d113_248 rfl rfl rfl hr
theorem d113_251 : decode (pz_b 113) 251 = .ok (.aload_n 0, 1) := by decide +kernel
theorem q113_251 {dA : Nat → ClassId} {d : Nat} {st : List Value} {f : pz_F} {Q : Option Value → pz_F → Prop} {v1 v2 : Value} {x : Nat} : pz_R dA d 113 251 [.ref x, v1, v2] st f Q = pz_R dA d 113 252 [.ref x, v1, v2] (.ref x :: st) f Q := pz_go (pz_so d113_251 rfl)
theorem d113_252 : decode (pz_b 113) 252 = .ok (.getfield 72, 3) := by decide +kernel
theorem q113_252 {dA : Nat → ClassId} {d : Nat} {st : List Value} {f : pz_F} {Q : Option Value → pz_F → Prop} {v0 v1 v2 : Value} {a : Nat} : pz_R dA d 113 252 [v0, v1, v2] (.ref a :: st) f Q = pz_o (pz_gf f a 6 22) (fun v => pz_R dA d 113 255 [v0, v1, v2] (v :: st) f Q) := pz_gg d113_252 rfl
theorem d113_255 : decode (pz_b 113) 255 = .ok (.iconst 0, 1) := by decide +kernel
theorem q113_255 {dA : Nat → ClassId} {d : Nat} {st : List Value} {f : pz_F} {Q : Option Value → pz_F → Prop} {v0 v1 v2 : Value} : pz_R dA d 113 255 [v0, v1, v2] st f Q = pz_R dA d 113 256 [v0, v1, v2] (.int 0 :: st) f Q := pz_go (pz_so d113_255 rfl)
theorem d113_256 : decode (pz_b 113) 256 = .ok (.iaload, 1) := by decide +kernel
theorem q113_256 {dA : Nat → ClassId} {d : Nat} {st : List Value} {f : pz_F} {Q : Option Value → pz_F → Prop} {v0 v1 v2 : Value} {i : Int32} {a : Nat} : pz_R dA d 113 256 [v0, v1, v2] (.int i :: .ref a :: st) f Q = pz_o (pz_il (dA 0) f a i) (fun x => pz_R dA d 113 257 [v0, v1, v2] (.int x :: st) f Q) := pz_gil d113_256
theorem d113_257 : decode (pz_b 113) 257 = .ok (.iconst 5, 1) := by decide +kernel
theorem q113_257 {dA : Nat → ClassId} {d : Nat} {st : List Value} {f : pz_F} {Q : Option Value → pz_F → Prop} {v0 v1 v2 : Value} : pz_R dA d 113 257 [v0, v1, v2] st f Q = pz_R dA d 113 258 [v0, v1, v2] (.int 5 :: st) f Q := pz_go (pz_so d113_257 rfl)
theorem d113_258 : decode (pz_b 113) 258 = .ok (.if_icmp .ne 8, 3) := by decide +kernel
theorem q113_258 {dA : Nat → ClassId} {d : Nat} {st : List Value} {f : pz_F} {Q : Option Value → pz_F → Prop} {v0 v1 v2 : Value} {x y : Int32} : pz_R dA d 113 258 [v0, v1, v2] (.int y :: .int x :: st) f Q = (if x = y then pz_R dA d 113 261 [v0, v1, v2] st f Q else pz_R dA d 113 266 [v0, v1, v2] st f Q) := pz_gjn .ne d113_258 rfl
theorem d113_261 : decode (pz_b 113) 261 = .ok (.aload_n 0, 1) := by decide +kernel
theorem q113_261 {dA : Nat → ClassId} {d : Nat} {st : List Value} {f : pz_F} {Q : Option Value → pz_F → Prop} {v1 v2 : Value} {x : Nat} : pz_R dA d 113 261 [.ref x, v1, v2] st f Q = pz_R dA d 113 262 [.ref x, v1, v2] (.ref x :: st) f Q := pz_go (pz_so d113_261 rfl)
theorem d113_262 : decode (pz_b 113) 262 = .ok (.iload_n 1, 1) := by decide +kernel
theorem q113_262 {dA : Nat → ClassId} {d : Nat} {st : List Value} {f : pz_F} {Q : Option Value → pz_F → Prop} {v0 v2 : Value} {x : Int32} : pz_R dA d 113 262 [v0, .int x, v2] st f Q = pz_R dA d 113 263 [v0, .int x, v2] (.int x :: st) f Q := pz_go (pz_so d113_262 rfl)
theorem d113_263 : decode (pz_b 113) 263 = .ok (.invokevirtual 150, 3) := by decide +kernel
theorem q113_263 {dA : Nat → ClassId} {d : Nat} {st : List Value} {f : pz_F} {Q : Option Value → pz_F → Prop} {v0 v1 v2 : Value} {c0 : Int32} {b : Nat} (hr : st.length ≤ 4) : pz_R dA (d + 1) 113 263 [v0, v1, v2] (.int c0 :: .ref b :: st) f Q = pz_o (pz_gu f b 6) (fun _ => pz_C dA d 111 [.ref b, .int c0] f (fun r f' => pz_R dA (d + 1) 113 266 [v0, v1, v2] (r.toList ++ st) f' Q)) := pz_gcv (As := [.int c0]) d113_263 rfl rfl rfl hr
theorem d113_266 : decode (pz_b 113) 266 = .ok (.aload_n 0, 1) := by decide +kernel
theorem q113_266 {dA : Nat → ClassId} {d : Nat} {st : List Value} {f : pz_F} {Q : Option Value → pz_F → Prop} {v1 v2 : Value} {x : Nat} : pz_R dA d 113 266 [.ref x, v1, v2] st f Q = pz_R dA d 113 267 [.ref x, v1, v2] (.ref x :: st) f Q := pz_go (pz_so d113_266 rfl)
theorem d113_267 : decode (pz_b 113) 267 = .ok (.getfield 72, 3) := by decide +kernel
theorem q113_267 {dA : Nat → ClassId} {d : Nat} {st : List Value} {f : pz_F} {Q : Option Value → pz_F → Prop} {v0 v1 v2 : Value} {a : Nat} : pz_R dA d 113 267 [v0, v1, v2] (.ref a :: st) f Q = pz_o (pz_gf f a 6 22) (fun v => pz_R dA d 113 270 [v0, v1, v2] (v :: st) f Q) := pz_gg d113_267 rfl
theorem d113_270 : decode (pz_b 113) 270 = .ok (.iconst 0, 1) := by decide +kernel
theorem q113_270 {dA : Nat → ClassId} {d : Nat} {st : List Value} {f : pz_F} {Q : Option Value → pz_F → Prop} {v0 v1 v2 : Value} : pz_R dA d 113 270 [v0, v1, v2] st f Q = pz_R dA d 113 271 [v0, v1, v2] (.int 0 :: st) f Q := pz_go (pz_so d113_270 rfl)
theorem d113_271 : decode (pz_b 113) 271 = .ok (.iaload, 1) := by decide +kernel
theorem q113_271 {dA : Nat → ClassId} {d : Nat} {st : List Value} {f : pz_F} {Q : Option Value → pz_F → Prop} {v0 v1 v2 : Value} {i : Int32} {a : Nat} : pz_R dA d 113 271 [v0, v1, v2] (.int i :: .ref a :: st) f Q = pz_o (pz_il (dA 0) f a i) (fun x => pz_R dA d 113 272 [v0, v1, v2] (.int x :: st) f Q) := pz_gil d113_271
theorem d113_272 : decode (pz_b 113) 272 = .ok (.bipush 6, 2) := by decide +kernel
theorem q113_272 {dA : Nat → ClassId} {d : Nat} {st : List Value} {f : pz_F} {Q : Option Value → pz_F → Prop} {v0 v1 v2 : Value} : pz_R dA d 113 272 [v0, v1, v2] st f Q = pz_R dA d 113 274 [v0, v1, v2] (.int 6 :: st) f Q := pz_go (pz_so d113_272 rfl)
theorem d113_274 : decode (pz_b 113) 274 = .ok (.if_icmp .ne 8, 3) := by decide +kernel
theorem q113_274 {dA : Nat → ClassId} {d : Nat} {st : List Value} {f : pz_F} {Q : Option Value → pz_F → Prop} {v0 v1 v2 : Value} {x y : Int32} : pz_R dA d 113 274 [v0, v1, v2] (.int y :: .int x :: st) f Q = (if x = y then pz_R dA d 113 277 [v0, v1, v2] st f Q else pz_R dA d 113 282 [v0, v1, v2] st f Q) := pz_gjn .ne d113_274 rfl
theorem d113_277 : decode (pz_b 113) 277 = .ok (.aload_n 0, 1) := by decide +kernel
theorem q113_277 {dA : Nat → ClassId} {d : Nat} {st : List Value} {f : pz_F} {Q : Option Value → pz_F → Prop} {v1 v2 : Value} {x : Nat} : pz_R dA d 113 277 [.ref x, v1, v2] st f Q = pz_R dA d 113 278 [.ref x, v1, v2] (.ref x :: st) f Q := pz_go (pz_so d113_277 rfl)
theorem d113_278 : decode (pz_b 113) 278 = .ok (.iload_n 1, 1) := by decide +kernel
theorem q113_278 {dA : Nat → ClassId} {d : Nat} {st : List Value} {f : pz_F} {Q : Option Value → pz_F → Prop} {v0 v2 : Value} {x : Int32} : pz_R dA d 113 278 [v0, .int x, v2] st f Q = pz_R dA d 113 279 [v0, .int x, v2] (.int x :: st) f Q := pz_go (pz_so d113_278 rfl)
theorem d113_279 : decode (pz_b 113) 279 = .ok (.invokevirtual 153, 3) := by decide +kernel
theorem q113_279 {dA : Nat → ClassId} {d : Nat} {st : List Value} {f : pz_F} {Q : Option Value → pz_F → Prop} {v0 v1 v2 : Value} {c0 : Int32} {b : Nat} (hr : st.length ≤ 4) : pz_R dA (d + 1) 113 279 [v0, v1, v2] (.int c0 :: .ref b :: st) f Q = pz_o (pz_gu f b 6) (fun _ => pz_C dA d 112 [.ref b, .int c0] f (fun r f' => pz_R dA (d + 1) 113 282 [v0, v1, v2] (r.toList ++ st) f' Q)) := pz_gcv (As := [.int c0]) d113_279 rfl rfl rfl hr
theorem d113_282 : decode (pz_b 113) 282 = .ok (.return_, 1) := by decide +kernel
theorem q113_282 {dA : Nat → ClassId} {d : Nat} {f : pz_F} {Q : Option Value → pz_F → Prop} {v0 v1 v2 : Value} : pz_R dA d 113 282 [v0, v1, v2] [] f Q = Q none f := pz_gr (pz_so d113_282 rfl)
/-! X_deliver (I)Z -/
theorem e114 {dA : Nat → ClassId} {d : Nat} {f : pz_F} {Q : Option Value → pz_F → Prop} {a0 : Nat} {a1 : Int32} : pz_C dA d 114 [.ref a0, .int a1] f Q = pz_R dA d 114 0 [.ref a0, .int a1, .retAddr 0] [] f Q := rfl
theorem d114_0 : decode (pz_b 114) 0 = .ok (.iload_n 1, 1) := by decide +kernel
theorem q114_0 {dA : Nat → ClassId} {d : Nat} {st : List Value} {f : pz_F} {Q : Option Value → pz_F → Prop} {v0 v2 : Value} {x : Int32} : pz_R dA d 114 0 [v0, .int x, v2] st f Q = pz_R dA d 114 1 [v0, .int x, v2] (.int x :: st) f Q := pz_go (pz_so d114_0 rfl)
theorem d114_1 : decode (pz_b 114) 1 = .ok (.ifCond .lt 11, 3) := by decide +kernel
theorem q114_1 {dA : Nat → ClassId} {d : Nat} {st : List Value} {f : pz_F} {Q : Option Value → pz_F → Prop} {v0 v1 v2 : Value} {x : Int32} : pz_R dA d 114 1 [v0, v1, v2] (.int x :: st) f Q = (if x < 0 then pz_R dA d 114 12 [v0, v1, v2] st f Q else pz_R dA d 114 4 [v0, v1, v2] st f Q) := pz_gj1 .lt d114_1 rfl
theorem d114_4 : decode (pz_b 114) 4 = .ok (.iload_n 1, 1) := by decide +kernel
theorem q114_4 {dA : Nat → ClassId} {d : Nat} {st : List Value} {f : pz_F} {Q : Option Value → pz_F → Prop} {v0 v2 : Value} {x : Int32} : pz_R dA d 114 4 [v0, .int x, v2] st f Q = pz_R dA d 114 5 [v0, .int x, v2] (.int x :: st) f Q := pz_go (pz_so d114_4 rfl)
theorem d114_5 : decode (pz_b 114) 5 = .ok (.aload_n 0, 1) := by decide +kernel
theorem q114_5 {dA : Nat → ClassId} {d : Nat} {st : List Value} {f : pz_F} {Q : Option Value → pz_F → Prop} {v1 v2 : Value} {x : Nat} : pz_R dA d 114 5 [.ref x, v1, v2] st f Q = pz_R dA d 114 6 [.ref x, v1, v2] (.ref x :: st) f Q := pz_go (pz_so d114_5 rfl)
theorem d114_6 : decode (pz_b 114) 6 = .ok (.getfield 82, 3) := by decide +kernel
theorem q114_6 {dA : Nat → ClassId} {d : Nat} {st : List Value} {f : pz_F} {Q : Option Value → pz_F → Prop} {v0 v1 v2 : Value} {a : Nat} : pz_R dA d 114 6 [v0, v1, v2] (.ref a :: st) f Q = pz_o (pz_gf f a 6 20) (fun v => pz_R dA d 114 9 [v0, v1, v2] (v :: st) f Q) := pz_gg d114_6 rfl
theorem d114_9 : decode (pz_b 114) 9 = .ok (.if_icmp .lt 5, 3) := by decide +kernel
theorem q114_9 {dA : Nat → ClassId} {d : Nat} {st : List Value} {f : pz_F} {Q : Option Value → pz_F → Prop} {v0 v1 v2 : Value} {x y : Int32} : pz_R dA d 114 9 [v0, v1, v2] (.int y :: .int x :: st) f Q = (if x < y then pz_R dA d 114 14 [v0, v1, v2] st f Q else pz_R dA d 114 12 [v0, v1, v2] st f Q) := pz_gjn .lt d114_9 rfl
theorem d114_12 : decode (pz_b 114) 12 = .ok (.iconst 0, 1) := by decide +kernel
theorem q114_12 {dA : Nat → ClassId} {d : Nat} {st : List Value} {f : pz_F} {Q : Option Value → pz_F → Prop} {v0 v1 v2 : Value} : pz_R dA d 114 12 [v0, v1, v2] st f Q = pz_R dA d 114 13 [v0, v1, v2] (.int 0 :: st) f Q := pz_go (pz_so d114_12 rfl)
theorem d114_13 : decode (pz_b 114) 13 = .ok (.ireturn, 1) := by decide +kernel
theorem q114_13z {dA : Nat → ClassId} {d : Nat} {f : pz_F} {Q : Option Value → pz_F → Prop} {v0 v1 v2 : Value} : pz_R dA d 114 13 [v0, v1, v2] [.int 0] f Q = Q (some (.int 0)) f := pz_gri d114_13 rfl rfl
theorem q114_13o {dA : Nat → ClassId} {d : Nat} {f : pz_F} {Q : Option Value → pz_F → Prop} {v0 v1 v2 : Value} : pz_R dA d 114 13 [v0, v1, v2] [.int 1] f Q = Q (some (.int 1)) f := pz_gri d114_13 rfl rfl
theorem d114_14 : decode (pz_b 114) 14 = .ok (.iconst 0, 1) := by decide +kernel
theorem q114_14 {dA : Nat → ClassId} {d : Nat} {st : List Value} {f : pz_F} {Q : Option Value → pz_F → Prop} {v0 v1 v2 : Value} : pz_R dA d 114 14 [v0, v1, v2] st f Q = pz_R dA d 114 15 [v0, v1, v2] (.int 0 :: st) f Q := pz_go (pz_so d114_14 rfl)
theorem d114_15 : decode (pz_b 114) 15 = .ok (.istore_n 2, 1) := by decide +kernel
theorem q114_15 {dA : Nat → ClassId} {d : Nat} {st : List Value} {f : pz_F} {Q : Option Value → pz_F → Prop} {v0 v1 v2 : Value} {x : Int32} : pz_R dA d 114 15 [v0, v1, v2] (.int x :: st) f Q = pz_R dA d 114 16 [v0, v1, .int x] st f Q := pz_go (pz_so d114_15 rfl)
theorem d114_16 : decode (pz_b 114) 16 = .ok (.iload_n 2, 1) := by decide +kernel
theorem q114_16 {dA : Nat → ClassId} {d : Nat} {st : List Value} {f : pz_F} {Q : Option Value → pz_F → Prop} {v0 v1 : Value} {x : Int32} : pz_R dA d 114 16 [v0, v1, .int x] st f Q = pz_R dA d 114 17 [v0, v1, .int x] (.int x :: st) f Q := pz_go (pz_so d114_16 rfl)
theorem d114_17 : decode (pz_b 114) 17 = .ok (.bipush 12, 2) := by decide +kernel
theorem q114_17 {dA : Nat → ClassId} {d : Nat} {st : List Value} {f : pz_F} {Q : Option Value → pz_F → Prop} {v0 v1 v2 : Value} : pz_R dA d 114 17 [v0, v1, v2] st f Q = pz_R dA d 114 19 [v0, v1, v2] (.int 12 :: st) f Q := pz_go (pz_so d114_17 rfl)
theorem d114_19 : decode (pz_b 114) 19 = .ok (.if_icmp .ge 26, 3) := by decide +kernel
theorem q114_19 {dA : Nat → ClassId} {d : Nat} {st : List Value} {f : pz_F} {Q : Option Value → pz_F → Prop} {v0 v1 v2 : Value} {x y : Int32} : pz_R dA d 114 19 [v0, v1, v2] (.int y :: .int x :: st) f Q = (if y ≤ x then pz_R dA d 114 45 [v0, v1, v2] st f Q else pz_R dA d 114 22 [v0, v1, v2] st f Q) := pz_gjn .ge d114_19 rfl
theorem d114_22 : decode (pz_b 114) 22 = .ok (.aload_n 0, 1) := by decide +kernel
theorem q114_22 {dA : Nat → ClassId} {d : Nat} {st : List Value} {f : pz_F} {Q : Option Value → pz_F → Prop} {v1 v2 : Value} {x : Nat} : pz_R dA d 114 22 [.ref x, v1, v2] st f Q = pz_R dA d 114 23 [.ref x, v1, v2] (.ref x :: st) f Q := pz_go (pz_so d114_22 rfl)
theorem d114_23 : decode (pz_b 114) 23 = .ok (.getfield 72, 3) := by decide +kernel
theorem q114_23 {dA : Nat → ClassId} {d : Nat} {st : List Value} {f : pz_F} {Q : Option Value → pz_F → Prop} {v0 v1 v2 : Value} {a : Nat} : pz_R dA d 114 23 [v0, v1, v2] (.ref a :: st) f Q = pz_o (pz_gf f a 6 22) (fun v => pz_R dA d 114 26 [v0, v1, v2] (v :: st) f Q) := pz_gg d114_23 rfl
theorem d114_26 : decode (pz_b 114) 26 = .ok (.iload_n 2, 1) := by decide +kernel
theorem q114_26 {dA : Nat → ClassId} {d : Nat} {st : List Value} {f : pz_F} {Q : Option Value → pz_F → Prop} {v0 v1 : Value} {x : Int32} : pz_R dA d 114 26 [v0, v1, .int x] st f Q = pz_R dA d 114 27 [v0, v1, .int x] (.int x :: st) f Q := pz_go (pz_so d114_26 rfl)
theorem d114_27 : decode (pz_b 114) 27 = .ok (.aload_n 0, 1) := by decide +kernel
theorem q114_27 {dA : Nat → ClassId} {d : Nat} {st : List Value} {f : pz_F} {Q : Option Value → pz_F → Prop} {v1 v2 : Value} {x : Nat} : pz_R dA d 114 27 [.ref x, v1, v2] st f Q = pz_R dA d 114 28 [.ref x, v1, v2] (.ref x :: st) f Q := pz_go (pz_so d114_27 rfl)
theorem d114_28 : decode (pz_b 114) 28 = .ok (.getfield 69, 3) := by decide +kernel
theorem q114_28 {dA : Nat → ClassId} {d : Nat} {st : List Value} {f : pz_F} {Q : Option Value → pz_F → Prop} {v0 v1 v2 : Value} {a : Nat} : pz_R dA d 114 28 [v0, v1, v2] (.ref a :: st) f Q = pz_o (pz_gf f a 6 21) (fun v => pz_R dA d 114 31 [v0, v1, v2] (v :: st) f Q) := pz_gg d114_28 rfl
theorem d114_31 : decode (pz_b 114) 31 = .ok (.bipush 12, 2) := by decide +kernel
theorem q114_31 {dA : Nat → ClassId} {d : Nat} {st : List Value} {f : pz_F} {Q : Option Value → pz_F → Prop} {v0 v1 v2 : Value} : pz_R dA d 114 31 [v0, v1, v2] st f Q = pz_R dA d 114 33 [v0, v1, v2] (.int 12 :: st) f Q := pz_go (pz_so d114_31 rfl)
theorem d114_33 : decode (pz_b 114) 33 = .ok (.iload_n 1, 1) := by decide +kernel
theorem q114_33 {dA : Nat → ClassId} {d : Nat} {st : List Value} {f : pz_F} {Q : Option Value → pz_F → Prop} {v0 v2 : Value} {x : Int32} : pz_R dA d 114 33 [v0, .int x, v2] st f Q = pz_R dA d 114 34 [v0, .int x, v2] (.int x :: st) f Q := pz_go (pz_so d114_33 rfl)
theorem d114_34 : decode (pz_b 114) 34 = .ok (.imul, 1) := by decide +kernel
theorem q114_34 {dA : Nat → ClassId} {d : Nat} {st : List Value} {f : pz_F} {Q : Option Value → pz_F → Prop} {v0 v1 v2 : Value} {x y : Int32} : pz_R dA d 114 34 [v0, v1, v2] (.int y :: .int x :: st) f Q = pz_R dA d 114 35 [v0, v1, v2] (.int (x * y) :: st) f Q := pz_go (pz_so d114_34 rfl)
theorem d114_35 : decode (pz_b 114) 35 = .ok (.iload_n 2, 1) := by decide +kernel
theorem q114_35 {dA : Nat → ClassId} {d : Nat} {st : List Value} {f : pz_F} {Q : Option Value → pz_F → Prop} {v0 v1 : Value} {x : Int32} : pz_R dA d 114 35 [v0, v1, .int x] st f Q = pz_R dA d 114 36 [v0, v1, .int x] (.int x :: st) f Q := pz_go (pz_so d114_35 rfl)
theorem d114_36 : decode (pz_b 114) 36 = .ok (.iadd, 1) := by decide +kernel
theorem q114_36 {dA : Nat → ClassId} {d : Nat} {st : List Value} {f : pz_F} {Q : Option Value → pz_F → Prop} {v0 v1 v2 : Value} {x y : Int32} : pz_R dA d 114 36 [v0, v1, v2] (.int y :: .int x :: st) f Q = pz_R dA d 114 37 [v0, v1, v2] (.int (x + y) :: st) f Q := pz_go (pz_so d114_36 rfl)
theorem d114_37 : decode (pz_b 114) 37 = .ok (.iaload, 1) := by decide +kernel
theorem q114_37 {dA : Nat → ClassId} {d : Nat} {st : List Value} {f : pz_F} {Q : Option Value → pz_F → Prop} {v0 v1 v2 : Value} {i : Int32} {a : Nat} : pz_R dA d 114 37 [v0, v1, v2] (.int i :: .ref a :: st) f Q = pz_o (pz_il (dA 0) f a i) (fun x => pz_R dA d 114 38 [v0, v1, v2] (.int x :: st) f Q) := pz_gil d114_37
theorem d114_38 : decode (pz_b 114) 38 = .ok (.iastore, 1) := by decide +kernel
theorem q114_38 {dA : Nat → ClassId} {d : Nat} {st : List Value} {f : pz_F} {Q : Option Value → pz_F → Prop} {v0 v1 v2 : Value} {x i : Int32} {a : Nat} : pz_R dA d 114 38 [v0, v1, v2] (.int x :: .int i :: .ref a :: st) f Q = pz_o (pz_is (dA 0) f a i x) (fun f' => pz_R dA d 114 39 [v0, v1, v2] st f' Q) := pz_gis d114_38
theorem d114_39 : decode (pz_b 114) 39 = .ok (.iinc 2 1, 3) := by decide +kernel
theorem q114_39 {dA : Nat → ClassId} {d : Nat} {st : List Value} {f : pz_F} {Q : Option Value → pz_F → Prop} {v0 v1 : Value} {x : Int32} : pz_R dA d 114 39 [v0, v1, .int x] st f Q = pz_R dA d 114 42 [v0, v1, .int (x + 1)] st f Q := pz_go (pz_so d114_39 rfl)
theorem d114_42 : decode (pz_b 114) 42 = .ok (.goto (-26), 3) := by decide +kernel
theorem q114_42 {dA : Nat → ClassId} {d : Nat} {st : List Value} {f : pz_F} {Q : Option Value → pz_F → Prop} {v0 v1 v2 : Value} : pz_R dA d 114 42 [v0, v1, v2] st f Q = pz_R dA d 114 16 [v0, v1, v2] st f Q := pz_go (pz_so d114_42 rfl)
theorem d114_45 : decode (pz_b 114) 45 = .ok (.aload_n 0, 1) := by decide +kernel
theorem q114_45 {dA : Nat → ClassId} {d : Nat} {st : List Value} {f : pz_F} {Q : Option Value → pz_F → Prop} {v1 v2 : Value} {x : Nat} : pz_R dA d 114 45 [.ref x, v1, v2] st f Q = pz_R dA d 114 46 [.ref x, v1, v2] (.ref x :: st) f Q := pz_go (pz_so d114_45 rfl)
theorem d114_46 : decode (pz_b 114) 46 = .ok (.iload_n 1, 1) := by decide +kernel
theorem q114_46 {dA : Nat → ClassId} {d : Nat} {st : List Value} {f : pz_F} {Q : Option Value → pz_F → Prop} {v0 v2 : Value} {x : Int32} : pz_R dA d 114 46 [v0, .int x, v2] st f Q = pz_R dA d 114 47 [v0, .int x, v2] (.int x :: st) f Q := pz_go (pz_so d114_46 rfl)
theorem d114_47 : decode (pz_b 114) 47 = .ok (.invokevirtual 156, 3) := by decide +kernel
theorem q114_47 {dA : Nat → ClassId} {d : Nat} {st : List Value} {f : pz_F} {Q : Option Value → pz_F → Prop} {v0 v1 v2 : Value} {c0 : Int32} {b : Nat} (hr : st.length ≤ 4) : pz_R dA (d + 1) 114 47 [v0, v1, v2] (.int c0 :: .ref b :: st) f Q = pz_o (pz_gu f b 6) (fun _ => pz_C dA d 96 [.ref b, .int c0] f (fun r f' => pz_R dA (d + 1) 114 50 [v0, v1, v2] (r.toList ++ st) f' Q)) := pz_gcv (As := [.int c0]) d114_47 rfl rfl rfl hr
theorem d114_50 : decode (pz_b 114) 50 = .ok (.aload_n 0, 1) := by decide +kernel
theorem q114_50 {dA : Nat → ClassId} {d : Nat} {st : List Value} {f : pz_F} {Q : Option Value → pz_F → Prop} {v1 v2 : Value} {x : Nat} : pz_R dA d 114 50 [.ref x, v1, v2] st f Q = pz_R dA d 114 51 [.ref x, v1, v2] (.ref x :: st) f Q := pz_go (pz_so d114_50 rfl)
theorem d114_51 : decode (pz_b 114) 51 = .ok (.getfield 72, 3) := by decide +kernel
theorem q114_51 {dA : Nat → ClassId} {d : Nat} {st : List Value} {f : pz_F} {Q : Option Value → pz_F → Prop} {v0 v1 v2 : Value} {a : Nat} : pz_R dA d 114 51 [v0, v1, v2] (.ref a :: st) f Q = pz_o (pz_gf f a 6 22) (fun v => pz_R dA d 114 54 [v0, v1, v2] (v :: st) f Q) := pz_gg d114_51 rfl
theorem d114_54 : decode (pz_b 114) 54 = .ok (.iconst 0, 1) := by decide +kernel
theorem q114_54 {dA : Nat → ClassId} {d : Nat} {st : List Value} {f : pz_F} {Q : Option Value → pz_F → Prop} {v0 v1 v2 : Value} : pz_R dA d 114 54 [v0, v1, v2] st f Q = pz_R dA d 114 55 [v0, v1, v2] (.int 0 :: st) f Q := pz_go (pz_so d114_54 rfl)
theorem d114_55 : decode (pz_b 114) 55 = .ok (.iaload, 1) := by decide +kernel
theorem q114_55 {dA : Nat → ClassId} {d : Nat} {st : List Value} {f : pz_F} {Q : Option Value → pz_F → Prop} {v0 v1 v2 : Value} {i : Int32} {a : Nat} : pz_R dA d 114 55 [v0, v1, v2] (.int i :: .ref a :: st) f Q = pz_o (pz_il (dA 0) f a i) (fun x => pz_R dA d 114 56 [v0, v1, v2] (.int x :: st) f Q) := pz_gil d114_55
theorem d114_56 : decode (pz_b 114) 56 = .ok (.iconst 1, 1) := by decide +kernel
theorem q114_56 {dA : Nat → ClassId} {d : Nat} {st : List Value} {f : pz_F} {Q : Option Value → pz_F → Prop} {v0 v1 v2 : Value} : pz_R dA d 114 56 [v0, v1, v2] st f Q = pz_R dA d 114 57 [v0, v1, v2] (.int 1 :: st) f Q := pz_go (pz_so d114_56 rfl)
theorem d114_57 : decode (pz_b 114) 57 = .ok (.if_icmp .eq 13, 3) := by decide +kernel
theorem q114_57 {dA : Nat → ClassId} {d : Nat} {st : List Value} {f : pz_F} {Q : Option Value → pz_F → Prop} {v0 v1 v2 : Value} {x y : Int32} : pz_R dA d 114 57 [v0, v1, v2] (.int y :: .int x :: st) f Q = (if x = y then pz_R dA d 114 70 [v0, v1, v2] st f Q else pz_R dA d 114 60 [v0, v1, v2] st f Q) := pz_gjn .eq d114_57 rfl
theorem d114_60 : decode (pz_b 114) 60 = .ok (.aload_n 0, 1) := by decide +kernel
theorem q114_60 {dA : Nat → ClassId} {d : Nat} {st : List Value} {f : pz_F} {Q : Option Value → pz_F → Prop} {v1 v2 : Value} {x : Nat} : pz_R dA d 114 60 [.ref x, v1, v2] st f Q = pz_R dA d 114 61 [.ref x, v1, v2] (.ref x :: st) f Q := pz_go (pz_so d114_60 rfl)
theorem d114_61 : decode (pz_b 114) 61 = .ok (.getfield 72, 3) := by decide +kernel
theorem q114_61 {dA : Nat → ClassId} {d : Nat} {st : List Value} {f : pz_F} {Q : Option Value → pz_F → Prop} {v0 v1 v2 : Value} {a : Nat} : pz_R dA d 114 61 [v0, v1, v2] (.ref a :: st) f Q = pz_o (pz_gf f a 6 22) (fun v => pz_R dA d 114 64 [v0, v1, v2] (v :: st) f Q) := pz_gg d114_61 rfl
theorem d114_64 : decode (pz_b 114) 64 = .ok (.iconst 0, 1) := by decide +kernel
theorem q114_64 {dA : Nat → ClassId} {d : Nat} {st : List Value} {f : pz_F} {Q : Option Value → pz_F → Prop} {v0 v1 v2 : Value} : pz_R dA d 114 64 [v0, v1, v2] st f Q = pz_R dA d 114 65 [v0, v1, v2] (.int 0 :: st) f Q := pz_go (pz_so d114_64 rfl)
theorem d114_65 : decode (pz_b 114) 65 = .ok (.iaload, 1) := by decide +kernel
theorem q114_65 {dA : Nat → ClassId} {d : Nat} {st : List Value} {f : pz_F} {Q : Option Value → pz_F → Prop} {v0 v1 v2 : Value} {i : Int32} {a : Nat} : pz_R dA d 114 65 [v0, v1, v2] (.int i :: .ref a :: st) f Q = pz_o (pz_il (dA 0) f a i) (fun x => pz_R dA d 114 66 [v0, v1, v2] (.int x :: st) f Q) := pz_gil d114_65
theorem d114_66 : decode (pz_b 114) 66 = .ok (.iconst 2, 1) := by decide +kernel
theorem q114_66 {dA : Nat → ClassId} {d : Nat} {st : List Value} {f : pz_F} {Q : Option Value → pz_F → Prop} {v0 v1 v2 : Value} : pz_R dA d 114 66 [v0, v1, v2] st f Q = pz_R dA d 114 67 [v0, v1, v2] (.int 2 :: st) f Q := pz_go (pz_so d114_66 rfl)
theorem d114_67 : decode (pz_b 114) 67 = .ok (.if_icmp .ne 7, 3) := by decide +kernel
theorem q114_67 {dA : Nat → ClassId} {d : Nat} {st : List Value} {f : pz_F} {Q : Option Value → pz_F → Prop} {v0 v1 v2 : Value} {x y : Int32} : pz_R dA d 114 67 [v0, v1, v2] (.int y :: .int x :: st) f Q = (if x = y then pz_R dA d 114 70 [v0, v1, v2] st f Q else pz_R dA d 114 74 [v0, v1, v2] st f Q) := pz_gjn .ne d114_67 rfl
theorem d114_70 : decode (pz_b 114) 70 = .ok (.iconst 1, 1) := by decide +kernel
theorem q114_70 {dA : Nat → ClassId} {d : Nat} {st : List Value} {f : pz_F} {Q : Option Value → pz_F → Prop} {v0 v1 v2 : Value} : pz_R dA d 114 70 [v0, v1, v2] st f Q = pz_R dA d 114 71 [v0, v1, v2] (.int 1 :: st) f Q := pz_go (pz_so d114_70 rfl)
theorem d114_71 : decode (pz_b 114) 71 = .ok (.goto 4, 3) := by decide +kernel
theorem q114_71 {dA : Nat → ClassId} {d : Nat} {st : List Value} {f : pz_F} {Q : Option Value → pz_F → Prop} {v0 v1 v2 : Value} : pz_R dA d 114 71 [v0, v1, v2] st f Q = pz_R dA d 114 75 [v0, v1, v2] st f Q := pz_go (pz_so d114_71 rfl)
theorem d114_74 : decode (pz_b 114) 74 = .ok (.iconst 0, 1) := by decide +kernel
theorem q114_74 {dA : Nat → ClassId} {d : Nat} {st : List Value} {f : pz_F} {Q : Option Value → pz_F → Prop} {v0 v1 v2 : Value} : pz_R dA d 114 74 [v0, v1, v2] st f Q = pz_R dA d 114 75 [v0, v1, v2] (.int 0 :: st) f Q := pz_go (pz_so d114_74 rfl)
theorem d114_75 : decode (pz_b 114) 75 = .ok (.istore_n 2, 1) := by decide +kernel
theorem q114_75 {dA : Nat → ClassId} {d : Nat} {st : List Value} {f : pz_F} {Q : Option Value → pz_F → Prop} {v0 v1 v2 : Value} {x : Int32} : pz_R dA d 114 75 [v0, v1, v2] (.int x :: st) f Q = pz_R dA d 114 76 [v0, v1, .int x] st f Q := pz_go (pz_so d114_75 rfl)
theorem d114_76 : decode (pz_b 114) 76 = .ok (.iload_n 2, 1) := by decide +kernel
theorem q114_76 {dA : Nat → ClassId} {d : Nat} {st : List Value} {f : pz_F} {Q : Option Value → pz_F → Prop} {v0 v1 : Value} {x : Int32} : pz_R dA d 114 76 [v0, v1, .int x] st f Q = pz_R dA d 114 77 [v0, v1, .int x] (.int x :: st) f Q := pz_go (pz_so d114_76 rfl)
theorem d114_77 : decode (pz_b 114) 77 = .ok (.ifCond .ne 17, 3) := by decide +kernel
theorem q114_77 {dA : Nat → ClassId} {d : Nat} {st : List Value} {f : pz_F} {Q : Option Value → pz_F → Prop} {v0 v1 v2 : Value} {x : Int32} : pz_R dA d 114 77 [v0, v1, v2] (.int x :: st) f Q = (if x = 0 then pz_R dA d 114 80 [v0, v1, v2] st f Q else pz_R dA d 114 94 [v0, v1, v2] st f Q) := pz_gj1 .ne d114_77 rfl
theorem d114_80 : decode (pz_b 114) 80 = .ok (.aload_n 0, 1) := by decide +kernel
theorem q114_80 {dA : Nat → ClassId} {d : Nat} {st : List Value} {f : pz_F} {Q : Option Value → pz_F → Prop} {v1 v2 : Value} {x : Nat} : pz_R dA d 114 80 [.ref x, v1, v2] st f Q = pz_R dA d 114 81 [.ref x, v1, v2] (.ref x :: st) f Q := pz_go (pz_so d114_80 rfl)
theorem d114_81 : decode (pz_b 114) 81 = .ok (.getfield 13, 3) := by decide +kernel
theorem q114_81 {dA : Nat → ClassId} {d : Nat} {st : List Value} {f : pz_F} {Q : Option Value → pz_F → Prop} {v0 v1 v2 : Value} {a : Nat} : pz_R dA d 114 81 [v0, v1, v2] (.ref a :: st) f Q = pz_o (pz_gf f a 6 2) (fun v => pz_R dA d 114 84 [v0, v1, v2] (v :: st) f Q) := pz_gg d114_81 rfl
theorem d114_84 : decode (pz_b 114) 84 = .ok (.aload_n 0, 1) := by decide +kernel
theorem q114_84 {dA : Nat → ClassId} {d : Nat} {st : List Value} {f : pz_F} {Q : Option Value → pz_F → Prop} {v1 v2 : Value} {x : Nat} : pz_R dA d 114 84 [.ref x, v1, v2] st f Q = pz_R dA d 114 85 [.ref x, v1, v2] (.ref x :: st) f Q := pz_go (pz_so d114_84 rfl)
theorem d114_85 : decode (pz_b 114) 85 = .ok (.getfield 72, 3) := by decide +kernel
theorem q114_85 {dA : Nat → ClassId} {d : Nat} {st : List Value} {f : pz_F} {Q : Option Value → pz_F → Prop} {v0 v1 v2 : Value} {a : Nat} : pz_R dA d 114 85 [v0, v1, v2] (.ref a :: st) f Q = pz_o (pz_gf f a 6 22) (fun v => pz_R dA d 114 88 [v0, v1, v2] (v :: st) f Q) := pz_gg d114_85 rfl
theorem d114_88 : decode (pz_b 114) 88 = .ok (.iconst 2, 1) := by decide +kernel
theorem q114_88 {dA : Nat → ClassId} {d : Nat} {st : List Value} {f : pz_F} {Q : Option Value → pz_F → Prop} {v0 v1 v2 : Value} : pz_R dA d 114 88 [v0, v1, v2] st f Q = pz_R dA d 114 89 [v0, v1, v2] (.int 2 :: st) f Q := pz_go (pz_so d114_88 rfl)
theorem d114_89 : decode (pz_b 114) 89 = .ok (.iaload, 1) := by decide +kernel
theorem q114_89 {dA : Nat → ClassId} {d : Nat} {st : List Value} {f : pz_F} {Q : Option Value → pz_F → Prop} {v0 v1 v2 : Value} {i : Int32} {a : Nat} : pz_R dA d 114 89 [v0, v1, v2] (.int i :: .ref a :: st) f Q = pz_o (pz_il (dA 0) f a i) (fun x => pz_R dA d 114 90 [v0, v1, v2] (.int x :: st) f Q) := pz_gil d114_89
theorem d114_90 : decode (pz_b 114) 90 = .ok (.iaload, 1) := by decide +kernel
theorem q114_90 {dA : Nat → ClassId} {d : Nat} {st : List Value} {f : pz_F} {Q : Option Value → pz_F → Prop} {v0 v1 v2 : Value} {i : Int32} {a : Nat} : pz_R dA d 114 90 [v0, v1, v2] (.int i :: .ref a :: st) f Q = pz_o (pz_il (dA 0) f a i) (fun x => pz_R dA d 114 91 [v0, v1, v2] (.int x :: st) f Q) := pz_gil d114_90
theorem d114_91 : decode (pz_b 114) 91 = .ok (.ifCond .eq 20, 3) := by decide +kernel
theorem q114_91 {dA : Nat → ClassId} {d : Nat} {st : List Value} {f : pz_F} {Q : Option Value → pz_F → Prop} {v0 v1 v2 : Value} {x : Int32} : pz_R dA d 114 91 [v0, v1, v2] (.int x :: st) f Q = (if x = 0 then pz_R dA d 114 111 [v0, v1, v2] st f Q else pz_R dA d 114 94 [v0, v1, v2] st f Q) := pz_gj1 .eq d114_91 rfl
theorem d114_94 : decode (pz_b 114) 94 = .ok (.aload_n 0, 1) := by decide +kernel
theorem q114_94 {dA : Nat → ClassId} {d : Nat} {st : List Value} {f : pz_F} {Q : Option Value → pz_F → Prop} {v1 v2 : Value} {x : Nat} : pz_R dA d 114 94 [.ref x, v1, v2] st f Q = pz_R dA d 114 95 [.ref x, v1, v2] (.ref x :: st) f Q := pz_go (pz_so d114_94 rfl)
theorem d114_95 : decode (pz_b 114) 95 = .ok (.getfield 72, 3) := by decide +kernel
theorem q114_95 {dA : Nat → ClassId} {d : Nat} {st : List Value} {f : pz_F} {Q : Option Value → pz_F → Prop} {v0 v1 v2 : Value} {a : Nat} : pz_R dA d 114 95 [v0, v1, v2] (.ref a :: st) f Q = pz_o (pz_gf f a 6 22) (fun v => pz_R dA d 114 98 [v0, v1, v2] (v :: st) f Q) := pz_gg d114_95 rfl
theorem d114_98 : decode (pz_b 114) 98 = .ok (.iconst 0, 1) := by decide +kernel
theorem q114_98 {dA : Nat → ClassId} {d : Nat} {st : List Value} {f : pz_F} {Q : Option Value → pz_F → Prop} {v0 v1 v2 : Value} : pz_R dA d 114 98 [v0, v1, v2] st f Q = pz_R dA d 114 99 [v0, v1, v2] (.int 0 :: st) f Q := pz_go (pz_so d114_98 rfl)
theorem d114_99 : decode (pz_b 114) 99 = .ok (.iaload, 1) := by decide +kernel
theorem q114_99 {dA : Nat → ClassId} {d : Nat} {st : List Value} {f : pz_F} {Q : Option Value → pz_F → Prop} {v0 v1 v2 : Value} {i : Int32} {a : Nat} : pz_R dA d 114 99 [v0, v1, v2] (.int i :: .ref a :: st) f Q = pz_o (pz_il (dA 0) f a i) (fun x => pz_R dA d 114 100 [v0, v1, v2] (.int x :: st) f Q) := pz_gil d114_99
theorem d114_100 : decode (pz_b 114) 100 = .ok (.iconst 3, 1) := by decide +kernel
theorem q114_100 {dA : Nat → ClassId} {d : Nat} {st : List Value} {f : pz_F} {Q : Option Value → pz_F → Prop} {v0 v1 v2 : Value} : pz_R dA d 114 100 [v0, v1, v2] st f Q = pz_R dA d 114 101 [v0, v1, v2] (.int 3 :: st) f Q := pz_go (pz_so d114_100 rfl)
theorem d114_101 : decode (pz_b 114) 101 = .ok (.if_icmp .le 12, 3) := by decide +kernel
theorem q114_101 {dA : Nat → ClassId} {d : Nat} {st : List Value} {f : pz_F} {Q : Option Value → pz_F → Prop} {v0 v1 v2 : Value} {x y : Int32} : pz_R dA d 114 101 [v0, v1, v2] (.int y :: .int x :: st) f Q = (if x ≤ y then pz_R dA d 114 113 [v0, v1, v2] st f Q else pz_R dA d 114 104 [v0, v1, v2] st f Q) := pz_gjn .le d114_101 rfl
theorem d114_104 : decode (pz_b 114) 104 = .ok (.aload_n 0, 1) := by decide +kernel
theorem q114_104 {dA : Nat → ClassId} {d : Nat} {st : List Value} {f : pz_F} {Q : Option Value → pz_F → Prop} {v1 v2 : Value} {x : Nat} : pz_R dA d 114 104 [.ref x, v1, v2] st f Q = pz_R dA d 114 105 [.ref x, v1, v2] (.ref x :: st) f Q := pz_go (pz_so d114_104 rfl)
theorem d114_105 : decode (pz_b 114) 105 = .ok (.invokevirtual 159, 3) := by decide +kernel
theorem q114_105 {dA : Nat → ClassId} {d : Nat} {st : List Value} {f : pz_F} {Q : Option Value → pz_F → Prop} {v0 v1 v2 : Value} {b : Nat} (hr : st.length ≤ 4) : pz_R dA (d + 1) 114 105 [v0, v1, v2] (.ref b :: st) f Q = pz_o (pz_gu f b 6) (fun _ => pz_C dA d 90 [.ref b] f (fun r f' => pz_R dA (d + 1) 114 108 [v0, v1, v2] (r.toList ++ st) f' Q)) := pz_gcv (As := []) d114_105 rfl rfl rfl hr
theorem d114_108 : decode (pz_b 114) 108 = .ok (.ifCond .ne 5, 3) := by decide +kernel
theorem q114_108 {dA : Nat → ClassId} {d : Nat} {st : List Value} {f : pz_F} {Q : Option Value → pz_F → Prop} {v0 v1 v2 : Value} {x : Int32} : pz_R dA d 114 108 [v0, v1, v2] (.int x :: st) f Q = (if x = 0 then pz_R dA d 114 111 [v0, v1, v2] st f Q else pz_R dA d 114 113 [v0, v1, v2] st f Q) := pz_gj1 .ne d114_108 rfl
theorem d114_111 : decode (pz_b 114) 111 = .ok (.iconst 0, 1) := by decide +kernel
theorem q114_111 {dA : Nat → ClassId} {d : Nat} {st : List Value} {f : pz_F} {Q : Option Value → pz_F → Prop} {v0 v1 v2 : Value} : pz_R dA d 114 111 [v0, v1, v2] st f Q = pz_R dA d 114 112 [v0, v1, v2] (.int 0 :: st) f Q := pz_go (pz_so d114_111 rfl)
theorem d114_112 : decode (pz_b 114) 112 = .ok (.ireturn, 1) := by decide +kernel
theorem q114_112z {dA : Nat → ClassId} {d : Nat} {f : pz_F} {Q : Option Value → pz_F → Prop} {v0 v1 v2 : Value} : pz_R dA d 114 112 [v0, v1, v2] [.int 0] f Q = Q (some (.int 0)) f := pz_gri d114_112 rfl rfl
theorem q114_112o {dA : Nat → ClassId} {d : Nat} {f : pz_F} {Q : Option Value → pz_F → Prop} {v0 v1 v2 : Value} : pz_R dA d 114 112 [v0, v1, v2] [.int 1] f Q = Q (some (.int 1)) f := pz_gri d114_112 rfl rfl
theorem d114_113 : decode (pz_b 114) 113 = .ok (.aload_n 0, 1) := by decide +kernel
theorem q114_113 {dA : Nat → ClassId} {d : Nat} {st : List Value} {f : pz_F} {Q : Option Value → pz_F → Prop} {v1 v2 : Value} {x : Nat} : pz_R dA d 114 113 [.ref x, v1, v2] st f Q = pz_R dA d 114 114 [.ref x, v1, v2] (.ref x :: st) f Q := pz_go (pz_so d114_113 rfl)
theorem d114_114 : decode (pz_b 114) 114 = .ok (.invokevirtual 163, 3) := by decide +kernel
theorem q114_114 {dA : Nat → ClassId} {d : Nat} {st : List Value} {f : pz_F} {Q : Option Value → pz_F → Prop} {v0 v1 v2 : Value} {b : Nat} (hr : st.length ≤ 4) : pz_R dA (d + 1) 114 114 [v0, v1, v2] (.ref b :: st) f Q = pz_o (pz_gu f b 6) (fun _ => pz_C dA d 113 [.ref b] f (fun r f' => pz_R dA (d + 1) 114 117 [v0, v1, v2] (r.toList ++ st) f' Q)) := pz_gcv (As := []) d114_114 rfl rfl rfl hr
theorem d114_117 : decode (pz_b 114) 117 = .ok (.iconst 1, 1) := by decide +kernel
theorem q114_117 {dA : Nat → ClassId} {d : Nat} {st : List Value} {f : pz_F} {Q : Option Value → pz_F → Prop} {v0 v1 v2 : Value} : pz_R dA d 114 117 [v0, v1, v2] st f Q = pz_R dA d 114 118 [v0, v1, v2] (.int 1 :: st) f Q := pz_go (pz_so d114_117 rfl)
theorem d114_118 : decode (pz_b 114) 118 = .ok (.ireturn, 1) := by decide +kernel
theorem q114_118z {dA : Nat → ClassId} {d : Nat} {f : pz_F} {Q : Option Value → pz_F → Prop} {v0 v1 v2 : Value} : pz_R dA d 114 118 [v0, v1, v2] [.int 0] f Q = Q (some (.int 0)) f := pz_gri d114_118 rfl rfl
theorem q114_118o {dA : Nat → ClassId} {d : Nat} {f : pz_F} {Q : Option Value → pz_F → Prop} {v0 v1 v2 : Value} : pz_R dA d 114 118 [v0, v1, v2] [.int 1] f Q = Q (some (.int 1)) f := pz_gri d114_118 rfl rfl
/-! X_lose (I)Z -/
theorem e115 {dA : Nat → ClassId} {d : Nat} {f : pz_F} {Q : Option Value → pz_F → Prop} {a0 : Nat} {a1 : Int32} : pz_C dA d 115 [.ref a0, .int a1] f Q = pz_R dA d 115 0 [.ref a0, .int a1] [] f Q := rfl
theorem d115_0 : decode (pz_b 115) 0 = .ok (.iload_n 1, 1) := by decide +kernel
theorem q115_0 {dA : Nat → ClassId} {d : Nat} {st : List Value} {f : pz_F} {Q : Option Value → pz_F → Prop} {v0 : Value} {x : Int32} : pz_R dA d 115 0 [v0, .int x] st f Q = pz_R dA d 115 1 [v0, .int x] (.int x :: st) f Q := pz_go (pz_so d115_0 rfl)
theorem d115_1 : decode (pz_b 115) 1 = .ok (.ifCond .lt 11, 3) := by decide +kernel
theorem q115_1 {dA : Nat → ClassId} {d : Nat} {st : List Value} {f : pz_F} {Q : Option Value → pz_F → Prop} {v0 v1 : Value} {x : Int32} : pz_R dA d 115 1 [v0, v1] (.int x :: st) f Q = (if x < 0 then pz_R dA d 115 12 [v0, v1] st f Q else pz_R dA d 115 4 [v0, v1] st f Q) := pz_gj1 .lt d115_1 rfl
theorem d115_4 : decode (pz_b 115) 4 = .ok (.iload_n 1, 1) := by decide +kernel
theorem q115_4 {dA : Nat → ClassId} {d : Nat} {st : List Value} {f : pz_F} {Q : Option Value → pz_F → Prop} {v0 : Value} {x : Int32} : pz_R dA d 115 4 [v0, .int x] st f Q = pz_R dA d 115 5 [v0, .int x] (.int x :: st) f Q := pz_go (pz_so d115_4 rfl)
theorem d115_5 : decode (pz_b 115) 5 = .ok (.aload_n 0, 1) := by decide +kernel
theorem q115_5 {dA : Nat → ClassId} {d : Nat} {st : List Value} {f : pz_F} {Q : Option Value → pz_F → Prop} {v1 : Value} {x : Nat} : pz_R dA d 115 5 [.ref x, v1] st f Q = pz_R dA d 115 6 [.ref x, v1] (.ref x :: st) f Q := pz_go (pz_so d115_5 rfl)
theorem d115_6 : decode (pz_b 115) 6 = .ok (.getfield 82, 3) := by decide +kernel
theorem q115_6 {dA : Nat → ClassId} {d : Nat} {st : List Value} {f : pz_F} {Q : Option Value → pz_F → Prop} {v0 v1 : Value} {a : Nat} : pz_R dA d 115 6 [v0, v1] (.ref a :: st) f Q = pz_o (pz_gf f a 6 20) (fun v => pz_R dA d 115 9 [v0, v1] (v :: st) f Q) := pz_gg d115_6 rfl
theorem d115_9 : decode (pz_b 115) 9 = .ok (.if_icmp .lt 5, 3) := by decide +kernel
theorem q115_9 {dA : Nat → ClassId} {d : Nat} {st : List Value} {f : pz_F} {Q : Option Value → pz_F → Prop} {v0 v1 : Value} {x y : Int32} : pz_R dA d 115 9 [v0, v1] (.int y :: .int x :: st) f Q = (if x < y then pz_R dA d 115 14 [v0, v1] st f Q else pz_R dA d 115 12 [v0, v1] st f Q) := pz_gjn .lt d115_9 rfl
theorem d115_12 : decode (pz_b 115) 12 = .ok (.iconst 0, 1) := by decide +kernel
theorem q115_12 {dA : Nat → ClassId} {d : Nat} {st : List Value} {f : pz_F} {Q : Option Value → pz_F → Prop} {v0 v1 : Value} : pz_R dA d 115 12 [v0, v1] st f Q = pz_R dA d 115 13 [v0, v1] (.int 0 :: st) f Q := pz_go (pz_so d115_12 rfl)
theorem d115_13 : decode (pz_b 115) 13 = .ok (.ireturn, 1) := by decide +kernel
theorem q115_13z {dA : Nat → ClassId} {d : Nat} {f : pz_F} {Q : Option Value → pz_F → Prop} {v0 v1 : Value} : pz_R dA d 115 13 [v0, v1] [.int 0] f Q = Q (some (.int 0)) f := pz_gri d115_13 rfl rfl
theorem q115_13o {dA : Nat → ClassId} {d : Nat} {f : pz_F} {Q : Option Value → pz_F → Prop} {v0 v1 : Value} : pz_R dA d 115 13 [v0, v1] [.int 1] f Q = Q (some (.int 1)) f := pz_gri d115_13 rfl rfl
theorem d115_14 : decode (pz_b 115) 14 = .ok (.aload_n 0, 1) := by decide +kernel
theorem q115_14 {dA : Nat → ClassId} {d : Nat} {st : List Value} {f : pz_F} {Q : Option Value → pz_F → Prop} {v1 : Value} {x : Nat} : pz_R dA d 115 14 [.ref x, v1] st f Q = pz_R dA d 115 15 [.ref x, v1] (.ref x :: st) f Q := pz_go (pz_so d115_14 rfl)
theorem d115_15 : decode (pz_b 115) 15 = .ok (.iload_n 1, 1) := by decide +kernel
theorem q115_15 {dA : Nat → ClassId} {d : Nat} {st : List Value} {f : pz_F} {Q : Option Value → pz_F → Prop} {v0 : Value} {x : Int32} : pz_R dA d 115 15 [v0, .int x] st f Q = pz_R dA d 115 16 [v0, .int x] (.int x :: st) f Q := pz_go (pz_so d115_15 rfl)
theorem d115_16 : decode (pz_b 115) 16 = .ok (.invokevirtual 156, 3) := by decide +kernel
theorem q115_16 {dA : Nat → ClassId} {d : Nat} {st : List Value} {f : pz_F} {Q : Option Value → pz_F → Prop} {v0 v1 : Value} {c0 : Int32} {b : Nat} (hr : st.length ≤ 4) : pz_R dA (d + 1) 115 16 [v0, v1] (.int c0 :: .ref b :: st) f Q = pz_o (pz_gu f b 6) (fun _ => pz_C dA d 96 [.ref b, .int c0] f (fun r f' => pz_R dA (d + 1) 115 19 [v0, v1] (r.toList ++ st) f' Q)) := pz_gcv (As := [.int c0]) d115_16 rfl rfl rfl hr
theorem d115_19 : decode (pz_b 115) 19 = .ok (.iconst 1, 1) := by decide +kernel
theorem q115_19 {dA : Nat → ClassId} {d : Nat} {st : List Value} {f : pz_F} {Q : Option Value → pz_F → Prop} {v0 v1 : Value} : pz_R dA d 115 19 [v0, v1] st f Q = pz_R dA d 115 20 [v0, v1] (.int 1 :: st) f Q := pz_go (pz_so d115_19 rfl)
theorem d115_20 : decode (pz_b 115) 20 = .ok (.ireturn, 1) := by decide +kernel
theorem q115_20z {dA : Nat → ClassId} {d : Nat} {f : pz_F} {Q : Option Value → pz_F → Prop} {v0 v1 : Value} : pz_R dA d 115 20 [v0, v1] [.int 0] f Q = Q (some (.int 0)) f := pz_gri d115_20 rfl rfl
theorem q115_20o {dA : Nat → ClassId} {d : Nat} {f : pz_F} {Q : Option Value → pz_F → Prop} {v0 v1 : Value} : pz_R dA d 115 20 [v0, v1] [.int 1] f Q = Q (some (.int 1)) f := pz_gri d115_20 rfl rfl
