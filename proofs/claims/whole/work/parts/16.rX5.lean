/-! X_start (I)Z -/
theorem e121 {dA : Nat → ClassId} {d : Nat} {f : pz_F} {Q : Option Value → pz_F → Prop} {a0 : Nat} {a1 : Int32} : pz_C dA d 121 [.ref a0, .int a1] f Q = pz_R dA d 121 0 [.ref a0, .int a1] [] f Q := rfl
theorem d121_0 : decode (pz_b 121) 0 = .ok (.iload_n 1, 1) := by decide +kernel
theorem q121_0 {dA : Nat → ClassId} {d : Nat} {st : List Value} {f : pz_F} {Q : Option Value → pz_F → Prop} {v0 : Value} {x : Int32} : pz_R dA d 121 0 [v0, .int x] st f Q = pz_R dA d 121 1 [v0, .int x] (.int x :: st) f Q := pz_go (pz_so d121_0 rfl)
theorem d121_1 : decode (pz_b 121) 1 = .ok (.invokestatic 175, 3) := by decide +kernel
theorem q121_1 {dA : Nat → ClassId} {d : Nat} {st : List Value} {f : pz_F} {Q : Option Value → pz_F → Prop} {v0 v1 : Value} {c0 : Int32} (hr : st.length ≤ 4) : pz_R dA (d + 1) 121 1 [v0, v1] (.int c0 :: st) f Q = pz_C dA d 87 [.int c0] f (fun r f' => pz_R dA (d + 1) 121 4 [v0, v1] (r.toList ++ st) f' Q) := pz_gcs (As := [.int c0]) d121_1 rfl rfl rfl hr
theorem d121_4 : decode (pz_b 121) 4 = .ok (.ifCond .eq 19, 3) := by decide +kernel
theorem q121_4 {dA : Nat → ClassId} {d : Nat} {st : List Value} {f : pz_F} {Q : Option Value → pz_F → Prop} {v0 v1 : Value} {x : Int32} : pz_R dA d 121 4 [v0, v1] (.int x :: st) f Q = (if x = 0 then pz_R dA d 121 23 [v0, v1] st f Q else pz_R dA d 121 7 [v0, v1] st f Q) := pz_gj1 .eq d121_4 rfl
theorem d121_7 : decode (pz_b 121) 7 = .ok (.aload_n 0, 1) := by decide +kernel
theorem q121_7 {dA : Nat → ClassId} {d : Nat} {st : List Value} {f : pz_F} {Q : Option Value → pz_F → Prop} {v1 : Value} {x : Nat} : pz_R dA d 121 7 [.ref x, v1] st f Q = pz_R dA d 121 8 [.ref x, v1] (.ref x :: st) f Q := pz_go (pz_so d121_7 rfl)
theorem d121_8 : decode (pz_b 121) 8 = .ok (.getfield 13, 3) := by decide +kernel
theorem q121_8 {dA : Nat → ClassId} {d : Nat} {st : List Value} {f : pz_F} {Q : Option Value → pz_F → Prop} {v0 v1 : Value} {a : Nat} : pz_R dA d 121 8 [v0, v1] (.ref a :: st) f Q = pz_o (pz_gf f a 6 2) (fun v => pz_R dA d 121 11 [v0, v1] (v :: st) f Q) := pz_gg d121_8 rfl
theorem d121_11 : decode (pz_b 121) 11 = .ok (.iload_n 1, 1) := by decide +kernel
theorem q121_11 {dA : Nat → ClassId} {d : Nat} {st : List Value} {f : pz_F} {Q : Option Value → pz_F → Prop} {v0 : Value} {x : Int32} : pz_R dA d 121 11 [v0, .int x] st f Q = pz_R dA d 121 12 [v0, .int x] (.int x :: st) f Q := pz_go (pz_so d121_11 rfl)
theorem d121_12 : decode (pz_b 121) 12 = .ok (.iaload, 1) := by decide +kernel
theorem q121_12 {dA : Nat → ClassId} {d : Nat} {st : List Value} {f : pz_F} {Q : Option Value → pz_F → Prop} {v0 v1 : Value} {i : Int32} {a : Nat} : pz_R dA d 121 12 [v0, v1] (.int i :: .ref a :: st) f Q = pz_o (pz_il (dA 0) f a i) (fun x => pz_R dA d 121 13 [v0, v1] (.int x :: st) f Q) := pz_gil d121_12
theorem d121_13 : decode (pz_b 121) 13 = .ok (.ifCond .ne 10, 3) := by decide +kernel
theorem q121_13 {dA : Nat → ClassId} {d : Nat} {st : List Value} {f : pz_F} {Q : Option Value → pz_F → Prop} {v0 v1 : Value} {x : Int32} : pz_R dA d 121 13 [v0, v1] (.int x :: st) f Q = (if x = 0 then pz_R dA d 121 16 [v0, v1] st f Q else pz_R dA d 121 23 [v0, v1] st f Q) := pz_gj1 .ne d121_13 rfl
theorem d121_16 : decode (pz_b 121) 16 = .ok (.aload_n 0, 1) := by decide +kernel
theorem q121_16 {dA : Nat → ClassId} {d : Nat} {st : List Value} {f : pz_F} {Q : Option Value → pz_F → Prop} {v1 : Value} {x : Nat} : pz_R dA d 121 16 [.ref x, v1] st f Q = pz_R dA d 121 17 [.ref x, v1] (.ref x :: st) f Q := pz_go (pz_so d121_16 rfl)
theorem d121_17 : decode (pz_b 121) 17 = .ok (.getfield 7, 3) := by decide +kernel
theorem q121_17 {dA : Nat → ClassId} {d : Nat} {st : List Value} {f : pz_F} {Q : Option Value → pz_F → Prop} {v0 v1 : Value} {a : Nat} : pz_R dA d 121 17 [v0, v1] (.ref a :: st) f Q = pz_o (pz_gf f a 6 1) (fun v => pz_R dA d 121 20 [v0, v1] (v :: st) f Q) := pz_gg d121_17 rfl
theorem d121_20 : decode (pz_b 121) 20 = .ok (.ifCond .ne 5, 3) := by decide +kernel
theorem q121_20 {dA : Nat → ClassId} {d : Nat} {st : List Value} {f : pz_F} {Q : Option Value → pz_F → Prop} {v0 v1 : Value} {x : Int32} : pz_R dA d 121 20 [v0, v1] (.int x :: st) f Q = (if x = 0 then pz_R dA d 121 23 [v0, v1] st f Q else pz_R dA d 121 25 [v0, v1] st f Q) := pz_gj1 .ne d121_20 rfl
theorem d121_23 : decode (pz_b 121) 23 = .ok (.iconst 0, 1) := by decide +kernel
theorem q121_23 {dA : Nat → ClassId} {d : Nat} {st : List Value} {f : pz_F} {Q : Option Value → pz_F → Prop} {v0 v1 : Value} : pz_R dA d 121 23 [v0, v1] st f Q = pz_R dA d 121 24 [v0, v1] (.int 0 :: st) f Q := pz_go (pz_so d121_23 rfl)
theorem d121_24 : decode (pz_b 121) 24 = .ok (.ireturn, 1) := by decide +kernel
theorem q121_24z {dA : Nat → ClassId} {d : Nat} {f : pz_F} {Q : Option Value → pz_F → Prop} {v0 v1 : Value} : pz_R dA d 121 24 [v0, v1] [.int 0] f Q = Q (some (.int 0)) f := pz_gri d121_24 rfl rfl
theorem q121_24o {dA : Nat → ClassId} {d : Nat} {f : pz_F} {Q : Option Value → pz_F → Prop} {v0 v1 : Value} : pz_R dA d 121 24 [v0, v1] [.int 1] f Q = Q (some (.int 1)) f := pz_gri d121_24 rfl rfl
theorem d121_25 : decode (pz_b 121) 25 = .ok (.aload_n 0, 1) := by decide +kernel
theorem q121_25 {dA : Nat → ClassId} {d : Nat} {st : List Value} {f : pz_F} {Q : Option Value → pz_F → Prop} {v1 : Value} {x : Nat} : pz_R dA d 121 25 [.ref x, v1] st f Q = pz_R dA d 121 26 [.ref x, v1] (.ref x :: st) f Q := pz_go (pz_so d121_25 rfl)
theorem d121_26 : decode (pz_b 121) 26 = .ok (.getfield 13, 3) := by decide +kernel
theorem q121_26 {dA : Nat → ClassId} {d : Nat} {st : List Value} {f : pz_F} {Q : Option Value → pz_F → Prop} {v0 v1 : Value} {a : Nat} : pz_R dA d 121 26 [v0, v1] (.ref a :: st) f Q = pz_o (pz_gf f a 6 2) (fun v => pz_R dA d 121 29 [v0, v1] (v :: st) f Q) := pz_gg d121_26 rfl
theorem d121_29 : decode (pz_b 121) 29 = .ok (.iload_n 1, 1) := by decide +kernel
theorem q121_29 {dA : Nat → ClassId} {d : Nat} {st : List Value} {f : pz_F} {Q : Option Value → pz_F → Prop} {v0 : Value} {x : Int32} : pz_R dA d 121 29 [v0, .int x] st f Q = pz_R dA d 121 30 [v0, .int x] (.int x :: st) f Q := pz_go (pz_so d121_29 rfl)
theorem d121_30 : decode (pz_b 121) 30 = .ok (.iconst 4, 1) := by decide +kernel
theorem q121_30 {dA : Nat → ClassId} {d : Nat} {st : List Value} {f : pz_F} {Q : Option Value → pz_F → Prop} {v0 v1 : Value} : pz_R dA d 121 30 [v0, v1] st f Q = pz_R dA d 121 31 [v0, v1] (.int 4 :: st) f Q := pz_go (pz_so d121_30 rfl)
theorem d121_31 : decode (pz_b 121) 31 = .ok (.iastore, 1) := by decide +kernel
theorem q121_31 {dA : Nat → ClassId} {d : Nat} {st : List Value} {f : pz_F} {Q : Option Value → pz_F → Prop} {v0 v1 : Value} {x i : Int32} {a : Nat} : pz_R dA d 121 31 [v0, v1] (.int x :: .int i :: .ref a :: st) f Q = pz_o (pz_is (dA 0) f a i x) (fun f' => pz_R dA d 121 32 [v0, v1] st f' Q) := pz_gis d121_31
theorem d121_32 : decode (pz_b 121) 32 = .ok (.aload_n 0, 1) := by decide +kernel
theorem q121_32 {dA : Nat → ClassId} {d : Nat} {st : List Value} {f : pz_F} {Q : Option Value → pz_F → Prop} {v1 : Value} {x : Nat} : pz_R dA d 121 32 [.ref x, v1] st f Q = pz_R dA d 121 33 [.ref x, v1] (.ref x :: st) f Q := pz_go (pz_so d121_32 rfl)
theorem d121_33 : decode (pz_b 121) 33 = .ok (.getfield 17, 3) := by decide +kernel
theorem q121_33 {dA : Nat → ClassId} {d : Nat} {st : List Value} {f : pz_F} {Q : Option Value → pz_F → Prop} {v0 v1 : Value} {a : Nat} : pz_R dA d 121 33 [v0, v1] (.ref a :: st) f Q = pz_o (pz_gf f a 6 3) (fun v => pz_R dA d 121 36 [v0, v1] (v :: st) f Q) := pz_gg d121_33 rfl
theorem d121_36 : decode (pz_b 121) 36 = .ok (.iload_n 1, 1) := by decide +kernel
theorem q121_36 {dA : Nat → ClassId} {d : Nat} {st : List Value} {f : pz_F} {Q : Option Value → pz_F → Prop} {v0 : Value} {x : Int32} : pz_R dA d 121 36 [v0, .int x] st f Q = pz_R dA d 121 37 [v0, .int x] (.int x :: st) f Q := pz_go (pz_so d121_36 rfl)
theorem d121_37 : decode (pz_b 121) 37 = .ok (.aload_n 0, 1) := by decide +kernel
theorem q121_37 {dA : Nat → ClassId} {d : Nat} {st : List Value} {f : pz_F} {Q : Option Value → pz_F → Prop} {v1 : Value} {x : Nat} : pz_R dA d 121 37 [.ref x, v1] st f Q = pz_R dA d 121 38 [.ref x, v1] (.ref x :: st) f Q := pz_go (pz_so d121_37 rfl)
theorem d121_38 : decode (pz_b 121) 38 = .ok (.getfield 78, 3) := by decide +kernel
theorem q121_38 {dA : Nat → ClassId} {d : Nat} {st : List Value} {f : pz_F} {Q : Option Value → pz_F → Prop} {v0 v1 : Value} {a : Nat} : pz_R dA d 121 38 [v0, v1] (.ref a :: st) f Q = pz_o (pz_gf f a 6 0) (fun v => pz_R dA d 121 41 [v0, v1] (v :: st) f Q) := pz_gg d121_38 rfl
theorem d121_41 : decode (pz_b 121) 41 = .ok (.iastore, 1) := by decide +kernel
theorem q121_41 {dA : Nat → ClassId} {d : Nat} {st : List Value} {f : pz_F} {Q : Option Value → pz_F → Prop} {v0 v1 : Value} {x i : Int32} {a : Nat} : pz_R dA d 121 41 [v0, v1] (.int x :: .int i :: .ref a :: st) f Q = pz_o (pz_is (dA 0) f a i x) (fun f' => pz_R dA d 121 42 [v0, v1] st f' Q) := pz_gis d121_41
theorem d121_42 : decode (pz_b 121) 42 = .ok (.aload_n 0, 1) := by decide +kernel
theorem q121_42 {dA : Nat → ClassId} {d : Nat} {st : List Value} {f : pz_F} {Q : Option Value → pz_F → Prop} {v1 : Value} {x : Nat} : pz_R dA d 121 42 [.ref x, v1] st f Q = pz_R dA d 121 43 [.ref x, v1] (.ref x :: st) f Q := pz_go (pz_so d121_42 rfl)
theorem d121_43 : decode (pz_b 121) 43 = .ok (.getfield 20, 3) := by decide +kernel
theorem q121_43 {dA : Nat → ClassId} {d : Nat} {st : List Value} {f : pz_F} {Q : Option Value → pz_F → Prop} {v0 v1 : Value} {a : Nat} : pz_R dA d 121 43 [v0, v1] (.ref a :: st) f Q = pz_o (pz_gf f a 6 4) (fun v => pz_R dA d 121 46 [v0, v1] (v :: st) f Q) := pz_gg d121_43 rfl
theorem d121_46 : decode (pz_b 121) 46 = .ok (.iload_n 1, 1) := by decide +kernel
theorem q121_46 {dA : Nat → ClassId} {d : Nat} {st : List Value} {f : pz_F} {Q : Option Value → pz_F → Prop} {v0 : Value} {x : Int32} : pz_R dA d 121 46 [v0, .int x] st f Q = pz_R dA d 121 47 [v0, .int x] (.int x :: st) f Q := pz_go (pz_so d121_46 rfl)
theorem d121_47 : decode (pz_b 121) 47 = .ok (.dup2, 1) := by decide +kernel
theorem q121_47 {dA : Nat → ClassId} {d : Nat} {st : List Value} {f : pz_F} {Q : Option Value → pz_F → Prop} {v0 v1 : Value} {x : Int32} {a : Nat} : pz_R dA d 121 47 [v0, v1] (.int x :: .ref a :: st) f Q = pz_R dA d 121 48 [v0, v1] (.int x :: .ref a :: .int x :: .ref a :: st) f Q := pz_go (pz_so d121_47 rfl)
theorem d121_48 : decode (pz_b 121) 48 = .ok (.iaload, 1) := by decide +kernel
theorem q121_48 {dA : Nat → ClassId} {d : Nat} {st : List Value} {f : pz_F} {Q : Option Value → pz_F → Prop} {v0 v1 : Value} {i : Int32} {a : Nat} : pz_R dA d 121 48 [v0, v1] (.int i :: .ref a :: st) f Q = pz_o (pz_il (dA 0) f a i) (fun x => pz_R dA d 121 49 [v0, v1] (.int x :: st) f Q) := pz_gil d121_48
theorem d121_49 : decode (pz_b 121) 49 = .ok (.iconst 1, 1) := by decide +kernel
theorem q121_49 {dA : Nat → ClassId} {d : Nat} {st : List Value} {f : pz_F} {Q : Option Value → pz_F → Prop} {v0 v1 : Value} : pz_R dA d 121 49 [v0, v1] st f Q = pz_R dA d 121 50 [v0, v1] (.int 1 :: st) f Q := pz_go (pz_so d121_49 rfl)
theorem d121_50 : decode (pz_b 121) 50 = .ok (.iadd, 1) := by decide +kernel
theorem q121_50 {dA : Nat → ClassId} {d : Nat} {st : List Value} {f : pz_F} {Q : Option Value → pz_F → Prop} {v0 v1 : Value} {x y : Int32} : pz_R dA d 121 50 [v0, v1] (.int y :: .int x :: st) f Q = pz_R dA d 121 51 [v0, v1] (.int (x + y) :: st) f Q := pz_go (pz_so d121_50 rfl)
theorem d121_51 : decode (pz_b 121) 51 = .ok (.iastore, 1) := by decide +kernel
theorem q121_51 {dA : Nat → ClassId} {d : Nat} {st : List Value} {f : pz_F} {Q : Option Value → pz_F → Prop} {v0 v1 : Value} {x i : Int32} {a : Nat} : pz_R dA d 121 51 [v0, v1] (.int x :: .int i :: .ref a :: st) f Q = pz_o (pz_is (dA 0) f a i x) (fun f' => pz_R dA d 121 52 [v0, v1] st f' Q) := pz_gis d121_51
theorem d121_52 : decode (pz_b 121) 52 = .ok (.aload_n 0, 1) := by decide +kernel
theorem q121_52 {dA : Nat → ClassId} {d : Nat} {st : List Value} {f : pz_F} {Q : Option Value → pz_F → Prop} {v1 : Value} {x : Nat} : pz_R dA d 121 52 [.ref x, v1] st f Q = pz_R dA d 121 53 [.ref x, v1] (.ref x :: st) f Q := pz_go (pz_so d121_52 rfl)
theorem d121_53 : decode (pz_b 121) 53 = .ok (.getfield 26, 3) := by decide +kernel
theorem q121_53 {dA : Nat → ClassId} {d : Nat} {st : List Value} {f : pz_F} {Q : Option Value → pz_F → Prop} {v0 v1 : Value} {a : Nat} : pz_R dA d 121 53 [v0, v1] (.ref a :: st) f Q = pz_o (pz_gf f a 6 6) (fun v => pz_R dA d 121 56 [v0, v1] (v :: st) f Q) := pz_gg d121_53 rfl
theorem d121_56 : decode (pz_b 121) 56 = .ok (.iload_n 1, 1) := by decide +kernel
theorem q121_56 {dA : Nat → ClassId} {d : Nat} {st : List Value} {f : pz_F} {Q : Option Value → pz_F → Prop} {v0 : Value} {x : Int32} : pz_R dA d 121 56 [v0, .int x] st f Q = pz_R dA d 121 57 [v0, .int x] (.int x :: st) f Q := pz_go (pz_so d121_56 rfl)
theorem d121_57 : decode (pz_b 121) 57 = .ok (.iconst 0, 1) := by decide +kernel
theorem q121_57 {dA : Nat → ClassId} {d : Nat} {st : List Value} {f : pz_F} {Q : Option Value → pz_F → Prop} {v0 v1 : Value} : pz_R dA d 121 57 [v0, v1] st f Q = pz_R dA d 121 58 [v0, v1] (.int 0 :: st) f Q := pz_go (pz_so d121_57 rfl)
theorem d121_58 : decode (pz_b 121) 58 = .ok (.iastore, 1) := by decide +kernel
theorem q121_58 {dA : Nat → ClassId} {d : Nat} {st : List Value} {f : pz_F} {Q : Option Value → pz_F → Prop} {v0 v1 : Value} {x i : Int32} {a : Nat} : pz_R dA d 121 58 [v0, v1] (.int x :: .int i :: .ref a :: st) f Q = pz_o (pz_is (dA 0) f a i x) (fun f' => pz_R dA d 121 59 [v0, v1] st f' Q) := pz_gis d121_58
theorem d121_59 : decode (pz_b 121) 59 = .ok (.iconst 1, 1) := by decide +kernel
theorem q121_59 {dA : Nat → ClassId} {d : Nat} {st : List Value} {f : pz_F} {Q : Option Value → pz_F → Prop} {v0 v1 : Value} : pz_R dA d 121 59 [v0, v1] st f Q = pz_R dA d 121 60 [v0, v1] (.int 1 :: st) f Q := pz_go (pz_so d121_59 rfl)
theorem d121_60 : decode (pz_b 121) 60 = .ok (.ireturn, 1) := by decide +kernel
theorem q121_60z {dA : Nat → ClassId} {d : Nat} {f : pz_F} {Q : Option Value → pz_F → Prop} {v0 v1 : Value} : pz_R dA d 121 60 [v0, v1] [.int 0] f Q = Q (some (.int 0)) f := pz_gri d121_60 rfl rfl
theorem q121_60o {dA : Nat → ClassId} {d : Nat} {f : pz_F} {Q : Option Value → pz_F → Prop} {v0 v1 : Value} : pz_R dA d 121 60 [v0, v1] [.int 1] f Q = Q (some (.int 1)) f := pz_gri d121_60 rfl rfl
/-! X_alone (I)Z -/
theorem e122 {dA : Nat → ClassId} {d : Nat} {f : pz_F} {Q : Option Value → pz_F → Prop} {a0 : Nat} {a1 : Int32} : pz_C dA d 122 [.ref a0, .int a1] f Q = pz_R dA d 122 0 [.ref a0, .int a1] [] f Q := rfl
theorem d122_0 : decode (pz_b 122) 0 = .ok (.iload_n 1, 1) := by decide +kernel
theorem q122_0 {dA : Nat → ClassId} {d : Nat} {st : List Value} {f : pz_F} {Q : Option Value → pz_F → Prop} {v0 : Value} {x : Int32} : pz_R dA d 122 0 [v0, .int x] st f Q = pz_R dA d 122 1 [v0, .int x] (.int x :: st) f Q := pz_go (pz_so d122_0 rfl)
theorem d122_1 : decode (pz_b 122) 1 = .ok (.invokestatic 175, 3) := by decide +kernel
theorem q122_1 {dA : Nat → ClassId} {d : Nat} {st : List Value} {f : pz_F} {Q : Option Value → pz_F → Prop} {v0 v1 : Value} {c0 : Int32} (hr : st.length ≤ 4) : pz_R dA (d + 1) 122 1 [v0, v1] (.int c0 :: st) f Q = pz_C dA d 87 [.int c0] f (fun r f' => pz_R dA (d + 1) 122 4 [v0, v1] (r.toList ++ st) f' Q) := pz_gcs (As := [.int c0]) d122_1 rfl rfl rfl hr
theorem d122_4 : decode (pz_b 122) 4 = .ok (.ifCond .eq 34, 3) := by decide +kernel
theorem q122_4 {dA : Nat → ClassId} {d : Nat} {st : List Value} {f : pz_F} {Q : Option Value → pz_F → Prop} {v0 v1 : Value} {x : Int32} : pz_R dA d 122 4 [v0, v1] (.int x :: st) f Q = (if x = 0 then pz_R dA d 122 38 [v0, v1] st f Q else pz_R dA d 122 7 [v0, v1] st f Q) := pz_gj1 .eq d122_4 rfl
theorem d122_7 : decode (pz_b 122) 7 = .ok (.aload_n 0, 1) := by decide +kernel
theorem q122_7 {dA : Nat → ClassId} {d : Nat} {st : List Value} {f : pz_F} {Q : Option Value → pz_F → Prop} {v1 : Value} {x : Nat} : pz_R dA d 122 7 [.ref x, v1] st f Q = pz_R dA d 122 8 [.ref x, v1] (.ref x :: st) f Q := pz_go (pz_so d122_7 rfl)
theorem d122_8 : decode (pz_b 122) 8 = .ok (.getfield 13, 3) := by decide +kernel
theorem q122_8 {dA : Nat → ClassId} {d : Nat} {st : List Value} {f : pz_F} {Q : Option Value → pz_F → Prop} {v0 v1 : Value} {a : Nat} : pz_R dA d 122 8 [v0, v1] (.ref a :: st) f Q = pz_o (pz_gf f a 6 2) (fun v => pz_R dA d 122 11 [v0, v1] (v :: st) f Q) := pz_gg d122_8 rfl
theorem d122_11 : decode (pz_b 122) 11 = .ok (.iload_n 1, 1) := by decide +kernel
theorem q122_11 {dA : Nat → ClassId} {d : Nat} {st : List Value} {f : pz_F} {Q : Option Value → pz_F → Prop} {v0 : Value} {x : Int32} : pz_R dA d 122 11 [v0, .int x] st f Q = pz_R dA d 122 12 [v0, .int x] (.int x :: st) f Q := pz_go (pz_so d122_11 rfl)
theorem d122_12 : decode (pz_b 122) 12 = .ok (.iaload, 1) := by decide +kernel
theorem q122_12 {dA : Nat → ClassId} {d : Nat} {st : List Value} {f : pz_F} {Q : Option Value → pz_F → Prop} {v0 v1 : Value} {i : Int32} {a : Nat} : pz_R dA d 122 12 [v0, v1] (.int i :: .ref a :: st) f Q = pz_o (pz_il (dA 0) f a i) (fun x => pz_R dA d 122 13 [v0, v1] (.int x :: st) f Q) := pz_gil d122_12
theorem d122_13 : decode (pz_b 122) 13 = .ok (.iconst 1, 1) := by decide +kernel
theorem q122_13 {dA : Nat → ClassId} {d : Nat} {st : List Value} {f : pz_F} {Q : Option Value → pz_F → Prop} {v0 v1 : Value} : pz_R dA d 122 13 [v0, v1] st f Q = pz_R dA d 122 14 [v0, v1] (.int 1 :: st) f Q := pz_go (pz_so d122_13 rfl)
theorem d122_14 : decode (pz_b 122) 14 = .ok (.if_icmp .eq 13, 3) := by decide +kernel
theorem q122_14 {dA : Nat → ClassId} {d : Nat} {st : List Value} {f : pz_F} {Q : Option Value → pz_F → Prop} {v0 v1 : Value} {x y : Int32} : pz_R dA d 122 14 [v0, v1] (.int y :: .int x :: st) f Q = (if x = y then pz_R dA d 122 27 [v0, v1] st f Q else pz_R dA d 122 17 [v0, v1] st f Q) := pz_gjn .eq d122_14 rfl
theorem d122_17 : decode (pz_b 122) 17 = .ok (.aload_n 0, 1) := by decide +kernel
theorem q122_17 {dA : Nat → ClassId} {d : Nat} {st : List Value} {f : pz_F} {Q : Option Value → pz_F → Prop} {v1 : Value} {x : Nat} : pz_R dA d 122 17 [.ref x, v1] st f Q = pz_R dA d 122 18 [.ref x, v1] (.ref x :: st) f Q := pz_go (pz_so d122_17 rfl)
theorem d122_18 : decode (pz_b 122) 18 = .ok (.getfield 13, 3) := by decide +kernel
theorem q122_18 {dA : Nat → ClassId} {d : Nat} {st : List Value} {f : pz_F} {Q : Option Value → pz_F → Prop} {v0 v1 : Value} {a : Nat} : pz_R dA d 122 18 [v0, v1] (.ref a :: st) f Q = pz_o (pz_gf f a 6 2) (fun v => pz_R dA d 122 21 [v0, v1] (v :: st) f Q) := pz_gg d122_18 rfl
theorem d122_21 : decode (pz_b 122) 21 = .ok (.iload_n 1, 1) := by decide +kernel
theorem q122_21 {dA : Nat → ClassId} {d : Nat} {st : List Value} {f : pz_F} {Q : Option Value → pz_F → Prop} {v0 : Value} {x : Int32} : pz_R dA d 122 21 [v0, .int x] st f Q = pz_R dA d 122 22 [v0, .int x] (.int x :: st) f Q := pz_go (pz_so d122_21 rfl)
theorem d122_22 : decode (pz_b 122) 22 = .ok (.iaload, 1) := by decide +kernel
theorem q122_22 {dA : Nat → ClassId} {d : Nat} {st : List Value} {f : pz_F} {Q : Option Value → pz_F → Prop} {v0 v1 : Value} {i : Int32} {a : Nat} : pz_R dA d 122 22 [v0, v1] (.int i :: .ref a :: st) f Q = pz_o (pz_il (dA 0) f a i) (fun x => pz_R dA d 122 23 [v0, v1] (.int x :: st) f Q) := pz_gil d122_22
theorem d122_23 : decode (pz_b 122) 23 = .ok (.iconst 2, 1) := by decide +kernel
theorem q122_23 {dA : Nat → ClassId} {d : Nat} {st : List Value} {f : pz_F} {Q : Option Value → pz_F → Prop} {v0 v1 : Value} : pz_R dA d 122 23 [v0, v1] st f Q = pz_R dA d 122 24 [v0, v1] (.int 2 :: st) f Q := pz_go (pz_so d122_23 rfl)
theorem d122_24 : decode (pz_b 122) 24 = .ok (.if_icmp .ne 14, 3) := by decide +kernel
theorem q122_24 {dA : Nat → ClassId} {d : Nat} {st : List Value} {f : pz_F} {Q : Option Value → pz_F → Prop} {v0 v1 : Value} {x y : Int32} : pz_R dA d 122 24 [v0, v1] (.int y :: .int x :: st) f Q = (if x = y then pz_R dA d 122 27 [v0, v1] st f Q else pz_R dA d 122 38 [v0, v1] st f Q) := pz_gjn .ne d122_24 rfl
theorem d122_27 : decode (pz_b 122) 27 = .ok (.aload_n 0, 1) := by decide +kernel
theorem q122_27 {dA : Nat → ClassId} {d : Nat} {st : List Value} {f : pz_F} {Q : Option Value → pz_F → Prop} {v1 : Value} {x : Nat} : pz_R dA d 122 27 [.ref x, v1] st f Q = pz_R dA d 122 28 [.ref x, v1] (.ref x :: st) f Q := pz_go (pz_so d122_27 rfl)
theorem d122_28 : decode (pz_b 122) 28 = .ok (.getfield 13, 3) := by decide +kernel
theorem q122_28 {dA : Nat → ClassId} {d : Nat} {st : List Value} {f : pz_F} {Q : Option Value → pz_F → Prop} {v0 v1 : Value} {a : Nat} : pz_R dA d 122 28 [v0, v1] (.ref a :: st) f Q = pz_o (pz_gf f a 6 2) (fun v => pz_R dA d 122 31 [v0, v1] (v :: st) f Q) := pz_gg d122_28 rfl
theorem d122_31 : decode (pz_b 122) 31 = .ok (.iconst 1, 1) := by decide +kernel
theorem q122_31 {dA : Nat → ClassId} {d : Nat} {st : List Value} {f : pz_F} {Q : Option Value → pz_F → Prop} {v0 v1 : Value} : pz_R dA d 122 31 [v0, v1] st f Q = pz_R dA d 122 32 [v0, v1] (.int 1 :: st) f Q := pz_go (pz_so d122_31 rfl)
theorem d122_32 : decode (pz_b 122) 32 = .ok (.iload_n 1, 1) := by decide +kernel
theorem q122_32 {dA : Nat → ClassId} {d : Nat} {st : List Value} {f : pz_F} {Q : Option Value → pz_F → Prop} {v0 : Value} {x : Int32} : pz_R dA d 122 32 [v0, .int x] st f Q = pz_R dA d 122 33 [v0, .int x] (.int x :: st) f Q := pz_go (pz_so d122_32 rfl)
theorem d122_33 : decode (pz_b 122) 33 = .ok (.isub, 1) := by decide +kernel
theorem q122_33 {dA : Nat → ClassId} {d : Nat} {st : List Value} {f : pz_F} {Q : Option Value → pz_F → Prop} {v0 v1 : Value} {x y : Int32} : pz_R dA d 122 33 [v0, v1] (.int y :: .int x :: st) f Q = pz_R dA d 122 34 [v0, v1] (.int (x - y) :: st) f Q := pz_go (pz_so d122_33 rfl)
theorem d122_34 : decode (pz_b 122) 34 = .ok (.iaload, 1) := by decide +kernel
theorem q122_34 {dA : Nat → ClassId} {d : Nat} {st : List Value} {f : pz_F} {Q : Option Value → pz_F → Prop} {v0 v1 : Value} {i : Int32} {a : Nat} : pz_R dA d 122 34 [v0, v1] (.int i :: .ref a :: st) f Q = pz_o (pz_il (dA 0) f a i) (fun x => pz_R dA d 122 35 [v0, v1] (.int x :: st) f Q) := pz_gil d122_34
theorem d122_35 : decode (pz_b 122) 35 = .ok (.ifCond .eq 5, 3) := by decide +kernel
theorem q122_35 {dA : Nat → ClassId} {d : Nat} {st : List Value} {f : pz_F} {Q : Option Value → pz_F → Prop} {v0 v1 : Value} {x : Int32} : pz_R dA d 122 35 [v0, v1] (.int x :: st) f Q = (if x = 0 then pz_R dA d 122 40 [v0, v1] st f Q else pz_R dA d 122 38 [v0, v1] st f Q) := pz_gj1 .eq d122_35 rfl
theorem d122_38 : decode (pz_b 122) 38 = .ok (.iconst 0, 1) := by decide +kernel
theorem q122_38 {dA : Nat → ClassId} {d : Nat} {st : List Value} {f : pz_F} {Q : Option Value → pz_F → Prop} {v0 v1 : Value} : pz_R dA d 122 38 [v0, v1] st f Q = pz_R dA d 122 39 [v0, v1] (.int 0 :: st) f Q := pz_go (pz_so d122_38 rfl)
theorem d122_39 : decode (pz_b 122) 39 = .ok (.ireturn, 1) := by decide +kernel
theorem q122_39z {dA : Nat → ClassId} {d : Nat} {f : pz_F} {Q : Option Value → pz_F → Prop} {v0 v1 : Value} : pz_R dA d 122 39 [v0, v1] [.int 0] f Q = Q (some (.int 0)) f := pz_gri d122_39 rfl rfl
theorem q122_39o {dA : Nat → ClassId} {d : Nat} {f : pz_F} {Q : Option Value → pz_F → Prop} {v0 v1 : Value} : pz_R dA d 122 39 [v0, v1] [.int 1] f Q = Q (some (.int 1)) f := pz_gri d122_39 rfl rfl
theorem d122_40 : decode (pz_b 122) 40 = .ok (.aload_n 0, 1) := by decide +kernel
theorem q122_40 {dA : Nat → ClassId} {d : Nat} {st : List Value} {f : pz_F} {Q : Option Value → pz_F → Prop} {v1 : Value} {x : Nat} : pz_R dA d 122 40 [.ref x, v1] st f Q = pz_R dA d 122 41 [.ref x, v1] (.ref x :: st) f Q := pz_go (pz_so d122_40 rfl)
theorem d122_41 : decode (pz_b 122) 41 = .ok (.getfield 13, 3) := by decide +kernel
theorem q122_41 {dA : Nat → ClassId} {d : Nat} {st : List Value} {f : pz_F} {Q : Option Value → pz_F → Prop} {v0 v1 : Value} {a : Nat} : pz_R dA d 122 41 [v0, v1] (.ref a :: st) f Q = pz_o (pz_gf f a 6 2) (fun v => pz_R dA d 122 44 [v0, v1] (v :: st) f Q) := pz_gg d122_41 rfl
theorem d122_44 : decode (pz_b 122) 44 = .ok (.iload_n 1, 1) := by decide +kernel
theorem q122_44 {dA : Nat → ClassId} {d : Nat} {st : List Value} {f : pz_F} {Q : Option Value → pz_F → Prop} {v0 : Value} {x : Int32} : pz_R dA d 122 44 [v0, .int x] st f Q = pz_R dA d 122 45 [v0, .int x] (.int x :: st) f Q := pz_go (pz_so d122_44 rfl)
theorem d122_45 : decode (pz_b 122) 45 = .ok (.iconst 3, 1) := by decide +kernel
theorem q122_45 {dA : Nat → ClassId} {d : Nat} {st : List Value} {f : pz_F} {Q : Option Value → pz_F → Prop} {v0 v1 : Value} : pz_R dA d 122 45 [v0, v1] st f Q = pz_R dA d 122 46 [v0, v1] (.int 3 :: st) f Q := pz_go (pz_so d122_45 rfl)
theorem d122_46 : decode (pz_b 122) 46 = .ok (.iastore, 1) := by decide +kernel
theorem q122_46 {dA : Nat → ClassId} {d : Nat} {st : List Value} {f : pz_F} {Q : Option Value → pz_F → Prop} {v0 v1 : Value} {x i : Int32} {a : Nat} : pz_R dA d 122 46 [v0, v1] (.int x :: .int i :: .ref a :: st) f Q = pz_o (pz_is (dA 0) f a i x) (fun f' => pz_R dA d 122 47 [v0, v1] st f' Q) := pz_gis d122_46
theorem d122_47 : decode (pz_b 122) 47 = .ok (.aload_n 0, 1) := by decide +kernel
theorem q122_47 {dA : Nat → ClassId} {d : Nat} {st : List Value} {f : pz_F} {Q : Option Value → pz_F → Prop} {v1 : Value} {x : Nat} : pz_R dA d 122 47 [.ref x, v1] st f Q = pz_R dA d 122 48 [.ref x, v1] (.ref x :: st) f Q := pz_go (pz_so d122_47 rfl)
theorem d122_48 : decode (pz_b 122) 48 = .ok (.getfield 17, 3) := by decide +kernel
theorem q122_48 {dA : Nat → ClassId} {d : Nat} {st : List Value} {f : pz_F} {Q : Option Value → pz_F → Prop} {v0 v1 : Value} {a : Nat} : pz_R dA d 122 48 [v0, v1] (.ref a :: st) f Q = pz_o (pz_gf f a 6 3) (fun v => pz_R dA d 122 51 [v0, v1] (v :: st) f Q) := pz_gg d122_48 rfl
theorem d122_51 : decode (pz_b 122) 51 = .ok (.iload_n 1, 1) := by decide +kernel
theorem q122_51 {dA : Nat → ClassId} {d : Nat} {st : List Value} {f : pz_F} {Q : Option Value → pz_F → Prop} {v0 : Value} {x : Int32} : pz_R dA d 122 51 [v0, .int x] st f Q = pz_R dA d 122 52 [v0, .int x] (.int x :: st) f Q := pz_go (pz_so d122_51 rfl)
theorem d122_52 : decode (pz_b 122) 52 = .ok (.aload_n 0, 1) := by decide +kernel
theorem q122_52 {dA : Nat → ClassId} {d : Nat} {st : List Value} {f : pz_F} {Q : Option Value → pz_F → Prop} {v1 : Value} {x : Nat} : pz_R dA d 122 52 [.ref x, v1] st f Q = pz_R dA d 122 53 [.ref x, v1] (.ref x :: st) f Q := pz_go (pz_so d122_52 rfl)
theorem d122_53 : decode (pz_b 122) 53 = .ok (.getfield 78, 3) := by decide +kernel
theorem q122_53 {dA : Nat → ClassId} {d : Nat} {st : List Value} {f : pz_F} {Q : Option Value → pz_F → Prop} {v0 v1 : Value} {a : Nat} : pz_R dA d 122 53 [v0, v1] (.ref a :: st) f Q = pz_o (pz_gf f a 6 0) (fun v => pz_R dA d 122 56 [v0, v1] (v :: st) f Q) := pz_gg d122_53 rfl
theorem d122_56 : decode (pz_b 122) 56 = .ok (.iastore, 1) := by decide +kernel
theorem q122_56 {dA : Nat → ClassId} {d : Nat} {st : List Value} {f : pz_F} {Q : Option Value → pz_F → Prop} {v0 v1 : Value} {x i : Int32} {a : Nat} : pz_R dA d 122 56 [v0, v1] (.int x :: .int i :: .ref a :: st) f Q = pz_o (pz_is (dA 0) f a i x) (fun f' => pz_R dA d 122 57 [v0, v1] st f' Q) := pz_gis d122_56
theorem d122_57 : decode (pz_b 122) 57 = .ok (.iconst 1, 1) := by decide +kernel
theorem q122_57 {dA : Nat → ClassId} {d : Nat} {st : List Value} {f : pz_F} {Q : Option Value → pz_F → Prop} {v0 v1 : Value} : pz_R dA d 122 57 [v0, v1] st f Q = pz_R dA d 122 58 [v0, v1] (.int 1 :: st) f Q := pz_go (pz_so d122_57 rfl)
theorem d122_58 : decode (pz_b 122) 58 = .ok (.ireturn, 1) := by decide +kernel
theorem q122_58z {dA : Nat → ClassId} {d : Nat} {f : pz_F} {Q : Option Value → pz_F → Prop} {v0 v1 : Value} : pz_R dA d 122 58 [v0, v1] [.int 0] f Q = Q (some (.int 0)) f := pz_gri d122_58 rfl rfl
theorem q122_58o {dA : Nat → ClassId} {d : Nat} {f : pz_F} {Q : Option Value → pz_F → Prop} {v0 v1 : Value} : pz_R dA d 122 58 [v0, v1] [.int 1] f Q = Q (some (.int 1)) f := pz_gri d122_58 rfl rfl
/-! X_link (Z)Z -/
theorem e123 {dA : Nat → ClassId} {d : Nat} {f : pz_F} {Q : Option Value → pz_F → Prop} {a0 : Nat} {a1 : Int32} : pz_C dA d 123 [.ref a0, .int a1] f Q = pz_R dA d 123 0 [.ref a0, .int a1] [] f Q := rfl
theorem d123_0 : decode (pz_b 123) 0 = .ok (.iload_n 1, 1) := by decide +kernel
theorem q123_0 {dA : Nat → ClassId} {d : Nat} {st : List Value} {f : pz_F} {Q : Option Value → pz_F → Prop} {v0 : Value} {x : Int32} : pz_R dA d 123 0 [v0, .int x] st f Q = pz_R dA d 123 1 [v0, .int x] (.int x :: st) f Q := pz_go (pz_so d123_0 rfl)
theorem d123_1 : decode (pz_b 123) 1 = .ok (.aload_n 0, 1) := by decide +kernel
theorem q123_1 {dA : Nat → ClassId} {d : Nat} {st : List Value} {f : pz_F} {Q : Option Value → pz_F → Prop} {v1 : Value} {x : Nat} : pz_R dA d 123 1 [.ref x, v1] st f Q = pz_R dA d 123 2 [.ref x, v1] (.ref x :: st) f Q := pz_go (pz_so d123_1 rfl)
theorem d123_2 : decode (pz_b 123) 2 = .ok (.getfield 7, 3) := by decide +kernel
theorem q123_2 {dA : Nat → ClassId} {d : Nat} {st : List Value} {f : pz_F} {Q : Option Value → pz_F → Prop} {v0 v1 : Value} {a : Nat} : pz_R dA d 123 2 [v0, v1] (.ref a :: st) f Q = pz_o (pz_gf f a 6 1) (fun v => pz_R dA d 123 5 [v0, v1] (v :: st) f Q) := pz_gg d123_2 rfl
theorem d123_5 : decode (pz_b 123) 5 = .ok (.if_icmp .ne 5, 3) := by decide +kernel
theorem q123_5 {dA : Nat → ClassId} {d : Nat} {st : List Value} {f : pz_F} {Q : Option Value → pz_F → Prop} {v0 v1 : Value} {x y : Int32} : pz_R dA d 123 5 [v0, v1] (.int y :: .int x :: st) f Q = (if x = y then pz_R dA d 123 8 [v0, v1] st f Q else pz_R dA d 123 10 [v0, v1] st f Q) := pz_gjn .ne d123_5 rfl
theorem d123_8 : decode (pz_b 123) 8 = .ok (.iconst 0, 1) := by decide +kernel
theorem q123_8 {dA : Nat → ClassId} {d : Nat} {st : List Value} {f : pz_F} {Q : Option Value → pz_F → Prop} {v0 v1 : Value} : pz_R dA d 123 8 [v0, v1] st f Q = pz_R dA d 123 9 [v0, v1] (.int 0 :: st) f Q := pz_go (pz_so d123_8 rfl)
theorem d123_9 : decode (pz_b 123) 9 = .ok (.ireturn, 1) := by decide +kernel
theorem q123_9z {dA : Nat → ClassId} {d : Nat} {f : pz_F} {Q : Option Value → pz_F → Prop} {v0 v1 : Value} : pz_R dA d 123 9 [v0, v1] [.int 0] f Q = Q (some (.int 0)) f := pz_gri d123_9 rfl rfl
theorem q123_9o {dA : Nat → ClassId} {d : Nat} {f : pz_F} {Q : Option Value → pz_F → Prop} {v0 v1 : Value} : pz_R dA d 123 9 [v0, v1] [.int 1] f Q = Q (some (.int 1)) f := pz_gri d123_9 rfl rfl
theorem d123_10 : decode (pz_b 123) 10 = .ok (.aload_n 0, 1) := by decide +kernel
theorem q123_10 {dA : Nat → ClassId} {d : Nat} {st : List Value} {f : pz_F} {Q : Option Value → pz_F → Prop} {v1 : Value} {x : Nat} : pz_R dA d 123 10 [.ref x, v1] st f Q = pz_R dA d 123 11 [.ref x, v1] (.ref x :: st) f Q := pz_go (pz_so d123_10 rfl)
theorem d123_11 : decode (pz_b 123) 11 = .ok (.iload_n 1, 1) := by decide +kernel
theorem q123_11 {dA : Nat → ClassId} {d : Nat} {st : List Value} {f : pz_F} {Q : Option Value → pz_F → Prop} {v0 : Value} {x : Int32} : pz_R dA d 123 11 [v0, .int x] st f Q = pz_R dA d 123 12 [v0, .int x] (.int x :: st) f Q := pz_go (pz_so d123_11 rfl)
theorem d123_12 : decode (pz_b 123) 12 = .ok (.putfield 7, 3) := by decide +kernel
theorem q123_12z {dA : Nat → ClassId} {d : Nat} {st : List Value} {f : pz_F} {Q : Option Value → pz_F → Prop} {v0 v1 : Value} {a : Nat} : pz_R dA d 123 12 [v0, v1] (.int 0 :: .ref a :: st) f Q = pz_o (pz_pf f a 6 1 (.int 0)) (fun f' => pz_R dA d 123 15 [v0, v1] st f' Q) := pz_gp d123_12 rfl rfl rfl rfl
theorem q123_12o {dA : Nat → ClassId} {d : Nat} {st : List Value} {f : pz_F} {Q : Option Value → pz_F → Prop} {v0 v1 : Value} {a : Nat} : pz_R dA d 123 12 [v0, v1] (.int 1 :: .ref a :: st) f Q = pz_o (pz_pf f a 6 1 (.int 1)) (fun f' => pz_R dA d 123 15 [v0, v1] st f' Q) := pz_gp d123_12 rfl rfl rfl rfl
theorem d123_15 : decode (pz_b 123) 15 = .ok (.iconst 1, 1) := by decide +kernel
theorem q123_15 {dA : Nat → ClassId} {d : Nat} {st : List Value} {f : pz_F} {Q : Option Value → pz_F → Prop} {v0 v1 : Value} : pz_R dA d 123 15 [v0, v1] st f Q = pz_R dA d 123 16 [v0, v1] (.int 1 :: st) f Q := pz_go (pz_so d123_15 rfl)
theorem d123_16 : decode (pz_b 123) 16 = .ok (.ireturn, 1) := by decide +kernel
theorem q123_16z {dA : Nat → ClassId} {d : Nat} {f : pz_F} {Q : Option Value → pz_F → Prop} {v0 v1 : Value} : pz_R dA d 123 16 [v0, v1] [.int 0] f Q = Q (some (.int 0)) f := pz_gri d123_16 rfl rfl
theorem q123_16o {dA : Nat → ClassId} {d : Nat} {f : pz_F} {Q : Option Value → pz_F → Prop} {v0 v1 : Value} : pz_R dA d 123 16 [v0, v1] [.int 1] f Q = Q (some (.int 1)) f := pz_gri d123_16 rfl rfl
/-! X_state (I)I -/
theorem e124 {dA : Nat → ClassId} {d : Nat} {f : pz_F} {Q : Option Value → pz_F → Prop} {a0 : Nat} {a1 : Int32} : pz_C dA d 124 [.ref a0, .int a1] f Q = pz_R dA d 124 0 [.ref a0, .int a1] [] f Q := rfl
theorem d124_0 : decode (pz_b 124) 0 = .ok (.iload_n 1, 1) := by decide +kernel
theorem q124_0 {dA : Nat → ClassId} {d : Nat} {st : List Value} {f : pz_F} {Q : Option Value → pz_F → Prop} {v0 : Value} {x : Int32} : pz_R dA d 124 0 [v0, .int x] st f Q = pz_R dA d 124 1 [v0, .int x] (.int x :: st) f Q := pz_go (pz_so d124_0 rfl)
theorem d124_1 : decode (pz_b 124) 1 = .ok (.invokestatic 175, 3) := by decide +kernel
theorem q124_1 {dA : Nat → ClassId} {d : Nat} {st : List Value} {f : pz_F} {Q : Option Value → pz_F → Prop} {v0 v1 : Value} {c0 : Int32} (hr : st.length ≤ 4) : pz_R dA (d + 1) 124 1 [v0, v1] (.int c0 :: st) f Q = pz_C dA d 87 [.int c0] f (fun r f' => pz_R dA (d + 1) 124 4 [v0, v1] (r.toList ++ st) f' Q) := pz_gcs (As := [.int c0]) d124_1 rfl rfl rfl hr
theorem d124_4 : decode (pz_b 124) 4 = .ok (.ifCond .eq 12, 3) := by decide +kernel
theorem q124_4 {dA : Nat → ClassId} {d : Nat} {st : List Value} {f : pz_F} {Q : Option Value → pz_F → Prop} {v0 v1 : Value} {x : Int32} : pz_R dA d 124 4 [v0, v1] (.int x :: st) f Q = (if x = 0 then pz_R dA d 124 16 [v0, v1] st f Q else pz_R dA d 124 7 [v0, v1] st f Q) := pz_gj1 .eq d124_4 rfl
theorem d124_7 : decode (pz_b 124) 7 = .ok (.aload_n 0, 1) := by decide +kernel
theorem q124_7 {dA : Nat → ClassId} {d : Nat} {st : List Value} {f : pz_F} {Q : Option Value → pz_F → Prop} {v1 : Value} {x : Nat} : pz_R dA d 124 7 [.ref x, v1] st f Q = pz_R dA d 124 8 [.ref x, v1] (.ref x :: st) f Q := pz_go (pz_so d124_7 rfl)
theorem d124_8 : decode (pz_b 124) 8 = .ok (.getfield 13, 3) := by decide +kernel
theorem q124_8 {dA : Nat → ClassId} {d : Nat} {st : List Value} {f : pz_F} {Q : Option Value → pz_F → Prop} {v0 v1 : Value} {a : Nat} : pz_R dA d 124 8 [v0, v1] (.ref a :: st) f Q = pz_o (pz_gf f a 6 2) (fun v => pz_R dA d 124 11 [v0, v1] (v :: st) f Q) := pz_gg d124_8 rfl
theorem d124_11 : decode (pz_b 124) 11 = .ok (.iload_n 1, 1) := by decide +kernel
theorem q124_11 {dA : Nat → ClassId} {d : Nat} {st : List Value} {f : pz_F} {Q : Option Value → pz_F → Prop} {v0 : Value} {x : Int32} : pz_R dA d 124 11 [v0, .int x] st f Q = pz_R dA d 124 12 [v0, .int x] (.int x :: st) f Q := pz_go (pz_so d124_11 rfl)
theorem d124_12 : decode (pz_b 124) 12 = .ok (.iaload, 1) := by decide +kernel
theorem q124_12 {dA : Nat → ClassId} {d : Nat} {st : List Value} {f : pz_F} {Q : Option Value → pz_F → Prop} {v0 v1 : Value} {i : Int32} {a : Nat} : pz_R dA d 124 12 [v0, v1] (.int i :: .ref a :: st) f Q = pz_o (pz_il (dA 0) f a i) (fun x => pz_R dA d 124 13 [v0, v1] (.int x :: st) f Q) := pz_gil d124_12
theorem d124_13 : decode (pz_b 124) 13 = .ok (.goto 4, 3) := by decide +kernel
theorem q124_13 {dA : Nat → ClassId} {d : Nat} {st : List Value} {f : pz_F} {Q : Option Value → pz_F → Prop} {v0 v1 : Value} : pz_R dA d 124 13 [v0, v1] st f Q = pz_R dA d 124 17 [v0, v1] st f Q := pz_go (pz_so d124_13 rfl)
theorem d124_16 : decode (pz_b 124) 16 = .ok (.iconst (-1), 1) := by decide +kernel
theorem q124_16 {dA : Nat → ClassId} {d : Nat} {st : List Value} {f : pz_F} {Q : Option Value → pz_F → Prop} {v0 v1 : Value} : pz_R dA d 124 16 [v0, v1] st f Q = pz_R dA d 124 17 [v0, v1] (.int (-1) :: st) f Q := pz_go (pz_so d124_16 rfl)
theorem d124_17 : decode (pz_b 124) 17 = .ok (.ireturn, 1) := by decide +kernel
theorem q124_17 {dA : Nat → ClassId} {d : Nat} {f : pz_F} {Q : Option Value → pz_F → Prop} {v0 v1 : Value} {x : Int32} : pz_R dA d 124 17 [v0, v1] [.int x] f Q = Q (some (.int x)) f := pz_gri d124_17 rfl rfl
/-! X_entry (III)I -/
theorem e125 {dA : Nat → ClassId} {d : Nat} {f : pz_F} {Q : Option Value → pz_F → Prop} {a0 : Nat} {a1 : Int32} {a2 : Int32} {a3 : Int32} : pz_C dA d 125 [.ref a0, .int a1, .int a2, .int a3] f Q = pz_R dA d 125 0 [.ref a0, .int a1, .int a2, .int a3, .retAddr 0] [] f Q := rfl
theorem d125_0 : decode (pz_b 125) 0 = .ok (.iload_n 1, 1) := by decide +kernel
theorem q125_0 {dA : Nat → ClassId} {d : Nat} {st : List Value} {f : pz_F} {Q : Option Value → pz_F → Prop} {v0 v2 v3 v4 : Value} {x : Int32} : pz_R dA d 125 0 [v0, .int x, v2, v3, v4] st f Q = pz_R dA d 125 1 [v0, .int x, v2, v3, v4] (.int x :: st) f Q := pz_go (pz_so d125_0 rfl)
theorem d125_1 : decode (pz_b 125) 1 = .ok (.invokestatic 175, 3) := by decide +kernel
theorem q125_1 {dA : Nat → ClassId} {d : Nat} {st : List Value} {f : pz_F} {Q : Option Value → pz_F → Prop} {v0 v1 v2 v3 v4 : Value} {c0 : Int32} (hr : st.length ≤ 4) : pz_R dA (d + 1) 125 1 [v0, v1, v2, v3, v4] (.int c0 :: st) f Q = pz_C dA d 87 [.int c0] f (fun r f' => pz_R dA (d + 1) 125 4 [v0, v1, v2, v3, v4] (r.toList ++ st) f' Q) := pz_gcs (As := [.int c0]) d125_1 rfl rfl rfl hr
theorem d125_4 : decode (pz_b 125) 4 = .ok (.ifCond .eq 12, 3) := by decide +kernel
theorem q125_4 {dA : Nat → ClassId} {d : Nat} {st : List Value} {f : pz_F} {Q : Option Value → pz_F → Prop} {v0 v1 v2 v3 v4 : Value} {x : Int32} : pz_R dA d 125 4 [v0, v1, v2, v3, v4] (.int x :: st) f Q = (if x = 0 then pz_R dA d 125 16 [v0, v1, v2, v3, v4] st f Q else pz_R dA d 125 7 [v0, v1, v2, v3, v4] st f Q) := pz_gj1 .eq d125_4 rfl
theorem d125_7 : decode (pz_b 125) 7 = .ok (.iload_n 2, 1) := by decide +kernel
theorem q125_7 {dA : Nat → ClassId} {d : Nat} {st : List Value} {f : pz_F} {Q : Option Value → pz_F → Prop} {v0 v1 v3 v4 : Value} {x : Int32} : pz_R dA d 125 7 [v0, v1, .int x, v3, v4] st f Q = pz_R dA d 125 8 [v0, v1, .int x, v3, v4] (.int x :: st) f Q := pz_go (pz_so d125_7 rfl)
theorem d125_8 : decode (pz_b 125) 8 = .ok (.ifCond .lt 8, 3) := by decide +kernel
theorem q125_8 {dA : Nat → ClassId} {d : Nat} {st : List Value} {f : pz_F} {Q : Option Value → pz_F → Prop} {v0 v1 v2 v3 v4 : Value} {x : Int32} : pz_R dA d 125 8 [v0, v1, v2, v3, v4] (.int x :: st) f Q = (if x < 0 then pz_R dA d 125 16 [v0, v1, v2, v3, v4] st f Q else pz_R dA d 125 11 [v0, v1, v2, v3, v4] st f Q) := pz_gj1 .lt d125_8 rfl
theorem d125_11 : decode (pz_b 125) 11 = .ok (.iload_n 2, 1) := by decide +kernel
theorem q125_11 {dA : Nat → ClassId} {d : Nat} {st : List Value} {f : pz_F} {Q : Option Value → pz_F → Prop} {v0 v1 v3 v4 : Value} {x : Int32} : pz_R dA d 125 11 [v0, v1, .int x, v3, v4] st f Q = pz_R dA d 125 12 [v0, v1, .int x, v3, v4] (.int x :: st) f Q := pz_go (pz_so d125_11 rfl)
theorem d125_12 : decode (pz_b 125) 12 = .ok (.iconst 5, 1) := by decide +kernel
theorem q125_12 {dA : Nat → ClassId} {d : Nat} {st : List Value} {f : pz_F} {Q : Option Value → pz_F → Prop} {v0 v1 v2 v3 v4 : Value} : pz_R dA d 125 12 [v0, v1, v2, v3, v4] st f Q = pz_R dA d 125 13 [v0, v1, v2, v3, v4] (.int 5 :: st) f Q := pz_go (pz_so d125_12 rfl)
theorem d125_13 : decode (pz_b 125) 13 = .ok (.if_icmp .le 6, 3) := by decide +kernel
theorem q125_13 {dA : Nat → ClassId} {d : Nat} {st : List Value} {f : pz_F} {Q : Option Value → pz_F → Prop} {v0 v1 v2 v3 v4 : Value} {x y : Int32} : pz_R dA d 125 13 [v0, v1, v2, v3, v4] (.int y :: .int x :: st) f Q = (if x ≤ y then pz_R dA d 125 19 [v0, v1, v2, v3, v4] st f Q else pz_R dA d 125 16 [v0, v1, v2, v3, v4] st f Q) := pz_gjn .le d125_13 rfl
theorem d125_16 : decode (pz_b 125) 16 = .ok (.bipush (-2), 2) := by decide +kernel
theorem q125_16 {dA : Nat → ClassId} {d : Nat} {st : List Value} {f : pz_F} {Q : Option Value → pz_F → Prop} {v0 v1 v2 v3 v4 : Value} : pz_R dA d 125 16 [v0, v1, v2, v3, v4] st f Q = pz_R dA d 125 18 [v0, v1, v2, v3, v4] (.int (-2) :: st) f Q := pz_go (pz_so d125_16 rfl)
theorem d125_18 : decode (pz_b 125) 18 = .ok (.ireturn, 1) := by decide +kernel
theorem q125_18 {dA : Nat → ClassId} {d : Nat} {f : pz_F} {Q : Option Value → pz_F → Prop} {v0 v1 v2 v3 v4 : Value} {x : Int32} : pz_R dA d 125 18 [v0, v1, v2, v3, v4] [.int x] f Q = Q (some (.int x)) f := pz_gri d125_18 rfl rfl
theorem d125_19 : decode (pz_b 125) 19 = .ok (.bipush 6, 2) := by decide +kernel
theorem q125_19 {dA : Nat → ClassId} {d : Nat} {st : List Value} {f : pz_F} {Q : Option Value → pz_F → Prop} {v0 v1 v2 v3 v4 : Value} : pz_R dA d 125 19 [v0, v1, v2, v3, v4] st f Q = pz_R dA d 125 21 [v0, v1, v2, v3, v4] (.int 6 :: st) f Q := pz_go (pz_so d125_19 rfl)
theorem d125_21 : decode (pz_b 125) 21 = .ok (.iload_n 1, 1) := by decide +kernel
theorem q125_21 {dA : Nat → ClassId} {d : Nat} {st : List Value} {f : pz_F} {Q : Option Value → pz_F → Prop} {v0 v2 v3 v4 : Value} {x : Int32} : pz_R dA d 125 21 [v0, .int x, v2, v3, v4] st f Q = pz_R dA d 125 22 [v0, .int x, v2, v3, v4] (.int x :: st) f Q := pz_go (pz_so d125_21 rfl)
theorem d125_22 : decode (pz_b 125) 22 = .ok (.imul, 1) := by decide +kernel
theorem q125_22 {dA : Nat → ClassId} {d : Nat} {st : List Value} {f : pz_F} {Q : Option Value → pz_F → Prop} {v0 v1 v2 v3 v4 : Value} {x y : Int32} : pz_R dA d 125 22 [v0, v1, v2, v3, v4] (.int y :: .int x :: st) f Q = pz_R dA d 125 23 [v0, v1, v2, v3, v4] (.int (x * y) :: st) f Q := pz_go (pz_so d125_22 rfl)
theorem d125_23 : decode (pz_b 125) 23 = .ok (.iload_n 2, 1) := by decide +kernel
theorem q125_23 {dA : Nat → ClassId} {d : Nat} {st : List Value} {f : pz_F} {Q : Option Value → pz_F → Prop} {v0 v1 v3 v4 : Value} {x : Int32} : pz_R dA d 125 23 [v0, v1, .int x, v3, v4] st f Q = pz_R dA d 125 24 [v0, v1, .int x, v3, v4] (.int x :: st) f Q := pz_go (pz_so d125_23 rfl)
theorem d125_24 : decode (pz_b 125) 24 = .ok (.iadd, 1) := by decide +kernel
theorem q125_24 {dA : Nat → ClassId} {d : Nat} {st : List Value} {f : pz_F} {Q : Option Value → pz_F → Prop} {v0 v1 v2 v3 v4 : Value} {x y : Int32} : pz_R dA d 125 24 [v0, v1, v2, v3, v4] (.int y :: .int x :: st) f Q = pz_R dA d 125 25 [v0, v1, v2, v3, v4] (.int (x + y) :: st) f Q := pz_go (pz_so d125_24 rfl)
theorem d125_25 : decode (pz_b 125) 25 = .ok (.istore 4, 2) := by decide +kernel
theorem q125_25 {dA : Nat → ClassId} {d : Nat} {st : List Value} {f : pz_F} {Q : Option Value → pz_F → Prop} {v0 v1 v2 v3 v4 : Value} {x : Int32} : pz_R dA d 125 25 [v0, v1, v2, v3, v4] (.int x :: st) f Q = pz_R dA d 125 27 [v0, v1, v2, v3, .int x] st f Q := pz_go (pz_so d125_25 rfl)
theorem d125_27 : decode (pz_b 125) 27 = .ok (.iload_n 3, 1) := by decide +kernel
theorem q125_27 {dA : Nat → ClassId} {d : Nat} {st : List Value} {f : pz_F} {Q : Option Value → pz_F → Prop} {v0 v1 v2 v4 : Value} {x : Int32} : pz_R dA d 125 27 [v0, v1, v2, .int x, v4] st f Q = pz_R dA d 125 28 [v0, v1, v2, .int x, v4] (.int x :: st) f Q := pz_go (pz_so d125_27 rfl)
theorem d125_28 : decode (pz_b 125) 28 = .ok (.tableswitch 120 0 7 #[48, 56, 64, 72, 80, 88, 96, 104], 48) := by decide +kernel
theorem q125_28 {dA : Nat → ClassId} {d : Nat} {st : List Value} {f : pz_F} {Q : Option Value → pz_F → Prop} {v0 v1 v2 v3 v4 : Value} {x : Int32} : pz_R dA d 125 28 [v0, v1, v2, v3, v4] (.int x :: st) f Q = if x = 0 then pz_R dA d 125 76 [v0, v1, v2, v3, v4] st f Q else (if x = 1 then pz_R dA d 125 84 [v0, v1, v2, v3, v4] st f Q else (if x = 2 then pz_R dA d 125 92 [v0, v1, v2, v3, v4] st f Q else (if x = 3 then pz_R dA d 125 100 [v0, v1, v2, v3, v4] st f Q else (if x = 4 then pz_R dA d 125 108 [v0, v1, v2, v3, v4] st f Q else (if x = 5 then pz_R dA d 125 116 [v0, v1, v2, v3, v4] st f Q else (if x = 6 then pz_R dA d 125 124 [v0, v1, v2, v3, v4] st f Q else (if x = 7 then pz_R dA d 125 132 [v0, v1, v2, v3, v4] st f Q else (pz_R dA d 125 148 [v0, v1, v2, v3, v4] st f Q)))))))) := by
  by_cases h0 : x = 0
  · subst h0
    rw [if_pos rfl]
    exact pz_gti d125_28 (by decide) rfl rfl
  rw [if_neg h0]
  by_cases h1 : x = 1
  · subst h1
    rw [if_pos rfl]
    exact pz_gti d125_28 (by decide) rfl rfl
  rw [if_neg h1]
  by_cases h2 : x = 2
  · subst h2
    rw [if_pos rfl]
    exact pz_gti d125_28 (by decide) rfl rfl
  rw [if_neg h2]
  by_cases h3 : x = 3
  · subst h3
    rw [if_pos rfl]
    exact pz_gti d125_28 (by decide) rfl rfl
  rw [if_neg h3]
  by_cases h4 : x = 4
  · subst h4
    rw [if_pos rfl]
    exact pz_gti d125_28 (by decide) rfl rfl
  rw [if_neg h4]
  by_cases h5 : x = 5
  · subst h5
    rw [if_pos rfl]
    exact pz_gti d125_28 (by decide) rfl rfl
  rw [if_neg h5]
  by_cases h6 : x = 6
  · subst h6
    rw [if_pos rfl]
    exact pz_gti d125_28 (by decide) rfl rfl
  rw [if_neg h6]
  by_cases h7 : x = 7
  · subst h7
    rw [if_pos rfl]
    exact pz_gti d125_28 (by decide) rfl rfl
  rw [if_neg h7]
  refine pz_gtd d125_28 ?_ rfl
  have g0 : ¬ x.toInt = 0 := lv_neT h0 (by decide)
  have g1 : ¬ x.toInt = 1 := lv_neT h1 (by decide)
  have g2 : ¬ x.toInt = 2 := lv_neT h2 (by decide)
  have g3 : ¬ x.toInt = 3 := lv_neT h3 (by decide)
  have g4 : ¬ x.toInt = 4 := lv_neT h4 (by decide)
  have g5 : ¬ x.toInt = 5 := lv_neT h5 (by decide)
  have g6 : ¬ x.toInt = 6 := lv_neT h6 (by decide)
  have g7 : ¬ x.toInt = 7 := lv_neT h7 (by decide)
  omega
theorem d125_76 : decode (pz_b 125) 76 = .ok (.aload_n 0, 1) := by decide +kernel
theorem q125_76 {dA : Nat → ClassId} {d : Nat} {st : List Value} {f : pz_F} {Q : Option Value → pz_F → Prop} {v1 v2 v3 v4 : Value} {x : Nat} : pz_R dA d 125 76 [.ref x, v1, v2, v3, v4] st f Q = pz_R dA d 125 77 [.ref x, v1, v2, v3, v4] (.ref x :: st) f Q := pz_go (pz_so d125_76 rfl)
theorem d125_77 : decode (pz_b 125) 77 = .ok (.getfield 29, 3) := by decide +kernel
theorem q125_77 {dA : Nat → ClassId} {d : Nat} {st : List Value} {f : pz_F} {Q : Option Value → pz_F → Prop} {v0 v1 v2 v3 v4 : Value} {a : Nat} : pz_R dA d 125 77 [v0, v1, v2, v3, v4] (.ref a :: st) f Q = pz_o (pz_gf f a 6 7) (fun v => pz_R dA d 125 80 [v0, v1, v2, v3, v4] (v :: st) f Q) := pz_gg d125_77 rfl
theorem d125_80 : decode (pz_b 125) 80 = .ok (.iload 4, 2) := by decide +kernel
theorem q125_80 {dA : Nat → ClassId} {d : Nat} {st : List Value} {f : pz_F} {Q : Option Value → pz_F → Prop} {v0 v1 v2 v3 : Value} {x : Int32} : pz_R dA d 125 80 [v0, v1, v2, v3, .int x] st f Q = pz_R dA d 125 82 [v0, v1, v2, v3, .int x] (.int x :: st) f Q := pz_go (pz_so d125_80 rfl)
theorem d125_82 : decode (pz_b 125) 82 = .ok (.iaload, 1) := by decide +kernel
theorem q125_82 {dA : Nat → ClassId} {d : Nat} {st : List Value} {f : pz_F} {Q : Option Value → pz_F → Prop} {v0 v1 v2 v3 v4 : Value} {i : Int32} {a : Nat} : pz_R dA d 125 82 [v0, v1, v2, v3, v4] (.int i :: .ref a :: st) f Q = pz_o (pz_il (dA 0) f a i) (fun x => pz_R dA d 125 83 [v0, v1, v2, v3, v4] (.int x :: st) f Q) := pz_gil d125_82
theorem d125_83 : decode (pz_b 125) 83 = .ok (.ireturn, 1) := by decide +kernel
theorem q125_83 {dA : Nat → ClassId} {d : Nat} {f : pz_F} {Q : Option Value → pz_F → Prop} {v0 v1 v2 v3 v4 : Value} {x : Int32} : pz_R dA d 125 83 [v0, v1, v2, v3, v4] [.int x] f Q = Q (some (.int x)) f := pz_gri d125_83 rfl rfl
theorem d125_84 : decode (pz_b 125) 84 = .ok (.aload_n 0, 1) := by decide +kernel
theorem q125_84 {dA : Nat → ClassId} {d : Nat} {st : List Value} {f : pz_F} {Q : Option Value → pz_F → Prop} {v1 v2 v3 v4 : Value} {x : Nat} : pz_R dA d 125 84 [.ref x, v1, v2, v3, v4] st f Q = pz_R dA d 125 85 [.ref x, v1, v2, v3, v4] (.ref x :: st) f Q := pz_go (pz_so d125_84 rfl)
theorem d125_85 : decode (pz_b 125) 85 = .ok (.getfield 32, 3) := by decide +kernel
theorem q125_85 {dA : Nat → ClassId} {d : Nat} {st : List Value} {f : pz_F} {Q : Option Value → pz_F → Prop} {v0 v1 v2 v3 v4 : Value} {a : Nat} : pz_R dA d 125 85 [v0, v1, v2, v3, v4] (.ref a :: st) f Q = pz_o (pz_gf f a 6 8) (fun v => pz_R dA d 125 88 [v0, v1, v2, v3, v4] (v :: st) f Q) := pz_gg d125_85 rfl
theorem d125_88 : decode (pz_b 125) 88 = .ok (.iload 4, 2) := by decide +kernel
theorem q125_88 {dA : Nat → ClassId} {d : Nat} {st : List Value} {f : pz_F} {Q : Option Value → pz_F → Prop} {v0 v1 v2 v3 : Value} {x : Int32} : pz_R dA d 125 88 [v0, v1, v2, v3, .int x] st f Q = pz_R dA d 125 90 [v0, v1, v2, v3, .int x] (.int x :: st) f Q := pz_go (pz_so d125_88 rfl)
theorem d125_90 : decode (pz_b 125) 90 = .ok (.iaload, 1) := by decide +kernel
theorem q125_90 {dA : Nat → ClassId} {d : Nat} {st : List Value} {f : pz_F} {Q : Option Value → pz_F → Prop} {v0 v1 v2 v3 v4 : Value} {i : Int32} {a : Nat} : pz_R dA d 125 90 [v0, v1, v2, v3, v4] (.int i :: .ref a :: st) f Q = pz_o (pz_il (dA 0) f a i) (fun x => pz_R dA d 125 91 [v0, v1, v2, v3, v4] (.int x :: st) f Q) := pz_gil d125_90
theorem d125_91 : decode (pz_b 125) 91 = .ok (.ireturn, 1) := by decide +kernel
theorem q125_91 {dA : Nat → ClassId} {d : Nat} {f : pz_F} {Q : Option Value → pz_F → Prop} {v0 v1 v2 v3 v4 : Value} {x : Int32} : pz_R dA d 125 91 [v0, v1, v2, v3, v4] [.int x] f Q = Q (some (.int x)) f := pz_gri d125_91 rfl rfl
theorem d125_92 : decode (pz_b 125) 92 = .ok (.aload_n 0, 1) := by decide +kernel
theorem q125_92 {dA : Nat → ClassId} {d : Nat} {st : List Value} {f : pz_F} {Q : Option Value → pz_F → Prop} {v1 v2 v3 v4 : Value} {x : Nat} : pz_R dA d 125 92 [.ref x, v1, v2, v3, v4] st f Q = pz_R dA d 125 93 [.ref x, v1, v2, v3, v4] (.ref x :: st) f Q := pz_go (pz_so d125_92 rfl)
theorem d125_93 : decode (pz_b 125) 93 = .ok (.getfield 35, 3) := by decide +kernel
theorem q125_93 {dA : Nat → ClassId} {d : Nat} {st : List Value} {f : pz_F} {Q : Option Value → pz_F → Prop} {v0 v1 v2 v3 v4 : Value} {a : Nat} : pz_R dA d 125 93 [v0, v1, v2, v3, v4] (.ref a :: st) f Q = pz_o (pz_gf f a 6 9) (fun v => pz_R dA d 125 96 [v0, v1, v2, v3, v4] (v :: st) f Q) := pz_gg d125_93 rfl
theorem d125_96 : decode (pz_b 125) 96 = .ok (.iload 4, 2) := by decide +kernel
theorem q125_96 {dA : Nat → ClassId} {d : Nat} {st : List Value} {f : pz_F} {Q : Option Value → pz_F → Prop} {v0 v1 v2 v3 : Value} {x : Int32} : pz_R dA d 125 96 [v0, v1, v2, v3, .int x] st f Q = pz_R dA d 125 98 [v0, v1, v2, v3, .int x] (.int x :: st) f Q := pz_go (pz_so d125_96 rfl)
theorem d125_98 : decode (pz_b 125) 98 = .ok (.iaload, 1) := by decide +kernel
theorem q125_98 {dA : Nat → ClassId} {d : Nat} {st : List Value} {f : pz_F} {Q : Option Value → pz_F → Prop} {v0 v1 v2 v3 v4 : Value} {i : Int32} {a : Nat} : pz_R dA d 125 98 [v0, v1, v2, v3, v4] (.int i :: .ref a :: st) f Q = pz_o (pz_il (dA 0) f a i) (fun x => pz_R dA d 125 99 [v0, v1, v2, v3, v4] (.int x :: st) f Q) := pz_gil d125_98
theorem d125_99 : decode (pz_b 125) 99 = .ok (.ireturn, 1) := by decide +kernel
theorem q125_99 {dA : Nat → ClassId} {d : Nat} {f : pz_F} {Q : Option Value → pz_F → Prop} {v0 v1 v2 v3 v4 : Value} {x : Int32} : pz_R dA d 125 99 [v0, v1, v2, v3, v4] [.int x] f Q = Q (some (.int x)) f := pz_gri d125_99 rfl rfl
theorem d125_100 : decode (pz_b 125) 100 = .ok (.aload_n 0, 1) := by decide +kernel
theorem q125_100 {dA : Nat → ClassId} {d : Nat} {st : List Value} {f : pz_F} {Q : Option Value → pz_F → Prop} {v1 v2 v3 v4 : Value} {x : Nat} : pz_R dA d 125 100 [.ref x, v1, v2, v3, v4] st f Q = pz_R dA d 125 101 [.ref x, v1, v2, v3, v4] (.ref x :: st) f Q := pz_go (pz_so d125_100 rfl)
theorem d125_101 : decode (pz_b 125) 101 = .ok (.getfield 38, 3) := by decide +kernel
theorem q125_101 {dA : Nat → ClassId} {d : Nat} {st : List Value} {f : pz_F} {Q : Option Value → pz_F → Prop} {v0 v1 v2 v3 v4 : Value} {a : Nat} : pz_R dA d 125 101 [v0, v1, v2, v3, v4] (.ref a :: st) f Q = pz_o (pz_gf f a 6 10) (fun v => pz_R dA d 125 104 [v0, v1, v2, v3, v4] (v :: st) f Q) := pz_gg d125_101 rfl
theorem d125_104 : decode (pz_b 125) 104 = .ok (.iload 4, 2) := by decide +kernel
theorem q125_104 {dA : Nat → ClassId} {d : Nat} {st : List Value} {f : pz_F} {Q : Option Value → pz_F → Prop} {v0 v1 v2 v3 : Value} {x : Int32} : pz_R dA d 125 104 [v0, v1, v2, v3, .int x] st f Q = pz_R dA d 125 106 [v0, v1, v2, v3, .int x] (.int x :: st) f Q := pz_go (pz_so d125_104 rfl)
theorem d125_106 : decode (pz_b 125) 106 = .ok (.iaload, 1) := by decide +kernel
theorem q125_106 {dA : Nat → ClassId} {d : Nat} {st : List Value} {f : pz_F} {Q : Option Value → pz_F → Prop} {v0 v1 v2 v3 v4 : Value} {i : Int32} {a : Nat} : pz_R dA d 125 106 [v0, v1, v2, v3, v4] (.int i :: .ref a :: st) f Q = pz_o (pz_il (dA 0) f a i) (fun x => pz_R dA d 125 107 [v0, v1, v2, v3, v4] (.int x :: st) f Q) := pz_gil d125_106
theorem d125_107 : decode (pz_b 125) 107 = .ok (.ireturn, 1) := by decide +kernel
theorem q125_107 {dA : Nat → ClassId} {d : Nat} {f : pz_F} {Q : Option Value → pz_F → Prop} {v0 v1 v2 v3 v4 : Value} {x : Int32} : pz_R dA d 125 107 [v0, v1, v2, v3, v4] [.int x] f Q = Q (some (.int x)) f := pz_gri d125_107 rfl rfl
theorem d125_108 : decode (pz_b 125) 108 = .ok (.aload_n 0, 1) := by decide +kernel
theorem q125_108 {dA : Nat → ClassId} {d : Nat} {st : List Value} {f : pz_F} {Q : Option Value → pz_F → Prop} {v1 v2 v3 v4 : Value} {x : Nat} : pz_R dA d 125 108 [.ref x, v1, v2, v3, v4] st f Q = pz_R dA d 125 109 [.ref x, v1, v2, v3, v4] (.ref x :: st) f Q := pz_go (pz_so d125_108 rfl)
theorem d125_109 : decode (pz_b 125) 109 = .ok (.getfield 41, 3) := by decide +kernel
theorem q125_109 {dA : Nat → ClassId} {d : Nat} {st : List Value} {f : pz_F} {Q : Option Value → pz_F → Prop} {v0 v1 v2 v3 v4 : Value} {a : Nat} : pz_R dA d 125 109 [v0, v1, v2, v3, v4] (.ref a :: st) f Q = pz_o (pz_gf f a 6 11) (fun v => pz_R dA d 125 112 [v0, v1, v2, v3, v4] (v :: st) f Q) := pz_gg d125_109 rfl
theorem d125_112 : decode (pz_b 125) 112 = .ok (.iload 4, 2) := by decide +kernel
theorem q125_112 {dA : Nat → ClassId} {d : Nat} {st : List Value} {f : pz_F} {Q : Option Value → pz_F → Prop} {v0 v1 v2 v3 : Value} {x : Int32} : pz_R dA d 125 112 [v0, v1, v2, v3, .int x] st f Q = pz_R dA d 125 114 [v0, v1, v2, v3, .int x] (.int x :: st) f Q := pz_go (pz_so d125_112 rfl)
theorem d125_114 : decode (pz_b 125) 114 = .ok (.iaload, 1) := by decide +kernel
theorem q125_114 {dA : Nat → ClassId} {d : Nat} {st : List Value} {f : pz_F} {Q : Option Value → pz_F → Prop} {v0 v1 v2 v3 v4 : Value} {i : Int32} {a : Nat} : pz_R dA d 125 114 [v0, v1, v2, v3, v4] (.int i :: .ref a :: st) f Q = pz_o (pz_il (dA 0) f a i) (fun x => pz_R dA d 125 115 [v0, v1, v2, v3, v4] (.int x :: st) f Q) := pz_gil d125_114
theorem d125_115 : decode (pz_b 125) 115 = .ok (.ireturn, 1) := by decide +kernel
theorem q125_115 {dA : Nat → ClassId} {d : Nat} {f : pz_F} {Q : Option Value → pz_F → Prop} {v0 v1 v2 v3 v4 : Value} {x : Int32} : pz_R dA d 125 115 [v0, v1, v2, v3, v4] [.int x] f Q = Q (some (.int x)) f := pz_gri d125_115 rfl rfl
theorem d125_116 : decode (pz_b 125) 116 = .ok (.aload_n 0, 1) := by decide +kernel
theorem q125_116 {dA : Nat → ClassId} {d : Nat} {st : List Value} {f : pz_F} {Q : Option Value → pz_F → Prop} {v1 v2 v3 v4 : Value} {x : Nat} : pz_R dA d 125 116 [.ref x, v1, v2, v3, v4] st f Q = pz_R dA d 125 117 [.ref x, v1, v2, v3, v4] (.ref x :: st) f Q := pz_go (pz_so d125_116 rfl)
theorem d125_117 : decode (pz_b 125) 117 = .ok (.getfield 44, 3) := by decide +kernel
theorem q125_117 {dA : Nat → ClassId} {d : Nat} {st : List Value} {f : pz_F} {Q : Option Value → pz_F → Prop} {v0 v1 v2 v3 v4 : Value} {a : Nat} : pz_R dA d 125 117 [v0, v1, v2, v3, v4] (.ref a :: st) f Q = pz_o (pz_gf f a 6 12) (fun v => pz_R dA d 125 120 [v0, v1, v2, v3, v4] (v :: st) f Q) := pz_gg d125_117 rfl
theorem d125_120 : decode (pz_b 125) 120 = .ok (.iload 4, 2) := by decide +kernel
theorem q125_120 {dA : Nat → ClassId} {d : Nat} {st : List Value} {f : pz_F} {Q : Option Value → pz_F → Prop} {v0 v1 v2 v3 : Value} {x : Int32} : pz_R dA d 125 120 [v0, v1, v2, v3, .int x] st f Q = pz_R dA d 125 122 [v0, v1, v2, v3, .int x] (.int x :: st) f Q := pz_go (pz_so d125_120 rfl)
theorem d125_122 : decode (pz_b 125) 122 = .ok (.iaload, 1) := by decide +kernel
theorem q125_122 {dA : Nat → ClassId} {d : Nat} {st : List Value} {f : pz_F} {Q : Option Value → pz_F → Prop} {v0 v1 v2 v3 v4 : Value} {i : Int32} {a : Nat} : pz_R dA d 125 122 [v0, v1, v2, v3, v4] (.int i :: .ref a :: st) f Q = pz_o (pz_il (dA 0) f a i) (fun x => pz_R dA d 125 123 [v0, v1, v2, v3, v4] (.int x :: st) f Q) := pz_gil d125_122
theorem d125_123 : decode (pz_b 125) 123 = .ok (.ireturn, 1) := by decide +kernel
theorem q125_123 {dA : Nat → ClassId} {d : Nat} {f : pz_F} {Q : Option Value → pz_F → Prop} {v0 v1 v2 v3 v4 : Value} {x : Int32} : pz_R dA d 125 123 [v0, v1, v2, v3, v4] [.int x] f Q = Q (some (.int x)) f := pz_gri d125_123 rfl rfl
theorem d125_124 : decode (pz_b 125) 124 = .ok (.aload_n 0, 1) := by decide +kernel
theorem q125_124 {dA : Nat → ClassId} {d : Nat} {st : List Value} {f : pz_F} {Q : Option Value → pz_F → Prop} {v1 v2 v3 v4 : Value} {x : Nat} : pz_R dA d 125 124 [.ref x, v1, v2, v3, v4] st f Q = pz_R dA d 125 125 [.ref x, v1, v2, v3, v4] (.ref x :: st) f Q := pz_go (pz_so d125_124 rfl)
theorem d125_125 : decode (pz_b 125) 125 = .ok (.getfield 47, 3) := by decide +kernel
theorem q125_125 {dA : Nat → ClassId} {d : Nat} {st : List Value} {f : pz_F} {Q : Option Value → pz_F → Prop} {v0 v1 v2 v3 v4 : Value} {a : Nat} : pz_R dA d 125 125 [v0, v1, v2, v3, v4] (.ref a :: st) f Q = pz_o (pz_gf f a 6 13) (fun v => pz_R dA d 125 128 [v0, v1, v2, v3, v4] (v :: st) f Q) := pz_gg d125_125 rfl
theorem d125_128 : decode (pz_b 125) 128 = .ok (.iload 4, 2) := by decide +kernel
theorem q125_128 {dA : Nat → ClassId} {d : Nat} {st : List Value} {f : pz_F} {Q : Option Value → pz_F → Prop} {v0 v1 v2 v3 : Value} {x : Int32} : pz_R dA d 125 128 [v0, v1, v2, v3, .int x] st f Q = pz_R dA d 125 130 [v0, v1, v2, v3, .int x] (.int x :: st) f Q := pz_go (pz_so d125_128 rfl)
theorem d125_130 : decode (pz_b 125) 130 = .ok (.iaload, 1) := by decide +kernel
theorem q125_130 {dA : Nat → ClassId} {d : Nat} {st : List Value} {f : pz_F} {Q : Option Value → pz_F → Prop} {v0 v1 v2 v3 v4 : Value} {i : Int32} {a : Nat} : pz_R dA d 125 130 [v0, v1, v2, v3, v4] (.int i :: .ref a :: st) f Q = pz_o (pz_il (dA 0) f a i) (fun x => pz_R dA d 125 131 [v0, v1, v2, v3, v4] (.int x :: st) f Q) := pz_gil d125_130
theorem d125_131 : decode (pz_b 125) 131 = .ok (.ireturn, 1) := by decide +kernel
theorem q125_131 {dA : Nat → ClassId} {d : Nat} {f : pz_F} {Q : Option Value → pz_F → Prop} {v0 v1 v2 v3 v4 : Value} {x : Int32} : pz_R dA d 125 131 [v0, v1, v2, v3, v4] [.int x] f Q = Q (some (.int x)) f := pz_gri d125_131 rfl rfl
theorem d125_132 : decode (pz_b 125) 132 = .ok (.aload_n 0, 1) := by decide +kernel
theorem q125_132 {dA : Nat → ClassId} {d : Nat} {st : List Value} {f : pz_F} {Q : Option Value → pz_F → Prop} {v1 v2 v3 v4 : Value} {x : Nat} : pz_R dA d 125 132 [.ref x, v1, v2, v3, v4] st f Q = pz_R dA d 125 133 [.ref x, v1, v2, v3, v4] (.ref x :: st) f Q := pz_go (pz_so d125_132 rfl)
theorem d125_133 : decode (pz_b 125) 133 = .ok (.getfield 50, 3) := by decide +kernel
theorem q125_133 {dA : Nat → ClassId} {d : Nat} {st : List Value} {f : pz_F} {Q : Option Value → pz_F → Prop} {v0 v1 v2 v3 v4 : Value} {a : Nat} : pz_R dA d 125 133 [v0, v1, v2, v3, v4] (.ref a :: st) f Q = pz_o (pz_gf f a 6 14) (fun v => pz_R dA d 125 136 [v0, v1, v2, v3, v4] (v :: st) f Q) := pz_gg d125_133 rfl
theorem d125_136 : decode (pz_b 125) 136 = .ok (.iload 4, 2) := by decide +kernel
theorem q125_136 {dA : Nat → ClassId} {d : Nat} {st : List Value} {f : pz_F} {Q : Option Value → pz_F → Prop} {v0 v1 v2 v3 : Value} {x : Int32} : pz_R dA d 125 136 [v0, v1, v2, v3, .int x] st f Q = pz_R dA d 125 138 [v0, v1, v2, v3, .int x] (.int x :: st) f Q := pz_go (pz_so d125_136 rfl)
theorem d125_138 : decode (pz_b 125) 138 = .ok (.baload, 1) := by decide +kernel
theorem q125_138 {dA : Nat → ClassId} {d : Nat} {st : List Value} {f : pz_F} {Q : Option Value → pz_F → Prop} {v0 v1 v2 v3 v4 : Value} {i : Int32} {a : Nat} : pz_R dA d 125 138 [v0, v1, v2, v3, v4] (.int i :: .ref a :: st) f Q = pz_o (pz_il (dA 1) f a i) (fun x => pz_R dA d 125 139 [v0, v1, v2, v3, v4] (.int x :: st) f Q) := pz_gzl d125_138
theorem d125_139 : decode (pz_b 125) 139 = .ok (.ifCond .eq 7, 3) := by decide +kernel
theorem q125_139 {dA : Nat → ClassId} {d : Nat} {st : List Value} {f : pz_F} {Q : Option Value → pz_F → Prop} {v0 v1 v2 v3 v4 : Value} {x : Int32} : pz_R dA d 125 139 [v0, v1, v2, v3, v4] (.int x :: st) f Q = (if x = 0 then pz_R dA d 125 146 [v0, v1, v2, v3, v4] st f Q else pz_R dA d 125 142 [v0, v1, v2, v3, v4] st f Q) := pz_gj1 .eq d125_139 rfl
theorem d125_142 : decode (pz_b 125) 142 = .ok (.iconst 1, 1) := by decide +kernel
theorem q125_142 {dA : Nat → ClassId} {d : Nat} {st : List Value} {f : pz_F} {Q : Option Value → pz_F → Prop} {v0 v1 v2 v3 v4 : Value} : pz_R dA d 125 142 [v0, v1, v2, v3, v4] st f Q = pz_R dA d 125 143 [v0, v1, v2, v3, v4] (.int 1 :: st) f Q := pz_go (pz_so d125_142 rfl)
theorem d125_143 : decode (pz_b 125) 143 = .ok (.goto 4, 3) := by decide +kernel
theorem q125_143 {dA : Nat → ClassId} {d : Nat} {st : List Value} {f : pz_F} {Q : Option Value → pz_F → Prop} {v0 v1 v2 v3 v4 : Value} : pz_R dA d 125 143 [v0, v1, v2, v3, v4] st f Q = pz_R dA d 125 147 [v0, v1, v2, v3, v4] st f Q := pz_go (pz_so d125_143 rfl)
theorem d125_146 : decode (pz_b 125) 146 = .ok (.iconst 0, 1) := by decide +kernel
theorem q125_146 {dA : Nat → ClassId} {d : Nat} {st : List Value} {f : pz_F} {Q : Option Value → pz_F → Prop} {v0 v1 v2 v3 v4 : Value} : pz_R dA d 125 146 [v0, v1, v2, v3, v4] st f Q = pz_R dA d 125 147 [v0, v1, v2, v3, v4] (.int 0 :: st) f Q := pz_go (pz_so d125_146 rfl)
theorem d125_147 : decode (pz_b 125) 147 = .ok (.ireturn, 1) := by decide +kernel
theorem q125_147 {dA : Nat → ClassId} {d : Nat} {f : pz_F} {Q : Option Value → pz_F → Prop} {v0 v1 v2 v3 v4 : Value} {x : Int32} : pz_R dA d 125 147 [v0, v1, v2, v3, v4] [.int x] f Q = Q (some (.int x)) f := pz_gri d125_147 rfl rfl
theorem d125_148 : decode (pz_b 125) 148 = .ok (.bipush (-2), 2) := by decide +kernel
theorem q125_148 {dA : Nat → ClassId} {d : Nat} {st : List Value} {f : pz_F} {Q : Option Value → pz_F → Prop} {v0 v1 v2 v3 v4 : Value} : pz_R dA d 125 148 [v0, v1, v2, v3, v4] st f Q = pz_R dA d 125 150 [v0, v1, v2, v3, v4] (.int (-2) :: st) f Q := pz_go (pz_so d125_148 rfl)
theorem d125_150 : decode (pz_b 125) 150 = .ok (.ireturn, 1) := by decide +kernel
theorem q125_150 {dA : Nat → ClassId} {d : Nat} {f : pz_F} {Q : Option Value → pz_F → Prop} {v0 v1 v2 v3 v4 : Value} {x : Int32} : pz_R dA d 125 150 [v0, v1, v2, v3, v4] [.int x] f Q = Q (some (.int x)) f := pz_gri d125_150 rfl rfl
/-! X_client (II)I -/
theorem e126 {dA : Nat → ClassId} {d : Nat} {f : pz_F} {Q : Option Value → pz_F → Prop} {a0 : Nat} {a1 : Int32} {a2 : Int32} : pz_C dA d 126 [.ref a0, .int a1, .int a2] f Q = pz_R dA d 126 0 [.ref a0, .int a1, .int a2] [] f Q := rfl
theorem d126_0 : decode (pz_b 126) 0 = .ok (.iload_n 1, 1) := by decide +kernel
theorem q126_0 {dA : Nat → ClassId} {d : Nat} {st : List Value} {f : pz_F} {Q : Option Value → pz_F → Prop} {v0 v2 : Value} {x : Int32} : pz_R dA d 126 0 [v0, .int x, v2] st f Q = pz_R dA d 126 1 [v0, .int x, v2] (.int x :: st) f Q := pz_go (pz_so d126_0 rfl)
theorem d126_1 : decode (pz_b 126) 1 = .ok (.invokestatic 172, 3) := by decide +kernel
theorem q126_1 {dA : Nat → ClassId} {d : Nat} {st : List Value} {f : pz_F} {Q : Option Value → pz_F → Prop} {v0 v1 v2 : Value} {c0 : Int32} (hr : st.length ≤ 4) : pz_R dA (d + 1) 126 1 [v0, v1, v2] (.int c0 :: st) f Q = pz_C dA d 88 [.int c0] f (fun r f' => pz_R dA (d + 1) 126 4 [v0, v1, v2] (r.toList ++ st) f' Q) := pz_gcs (As := [.int c0]) d126_1 rfl rfl rfl hr
theorem d126_4 : decode (pz_b 126) 4 = .ok (.ifCond .eq 12, 3) := by decide +kernel
theorem q126_4 {dA : Nat → ClassId} {d : Nat} {st : List Value} {f : pz_F} {Q : Option Value → pz_F → Prop} {v0 v1 v2 : Value} {x : Int32} : pz_R dA d 126 4 [v0, v1, v2] (.int x :: st) f Q = (if x = 0 then pz_R dA d 126 16 [v0, v1, v2] st f Q else pz_R dA d 126 7 [v0, v1, v2] st f Q) := pz_gj1 .eq d126_4 rfl
theorem d126_7 : decode (pz_b 126) 7 = .ok (.iload_n 2, 1) := by decide +kernel
theorem q126_7 {dA : Nat → ClassId} {d : Nat} {st : List Value} {f : pz_F} {Q : Option Value → pz_F → Prop} {v0 v1 : Value} {x : Int32} : pz_R dA d 126 7 [v0, v1, .int x] st f Q = pz_R dA d 126 8 [v0, v1, .int x] (.int x :: st) f Q := pz_go (pz_so d126_7 rfl)
theorem d126_8 : decode (pz_b 126) 8 = .ok (.ifCond .lt 8, 3) := by decide +kernel
theorem q126_8 {dA : Nat → ClassId} {d : Nat} {st : List Value} {f : pz_F} {Q : Option Value → pz_F → Prop} {v0 v1 v2 : Value} {x : Int32} : pz_R dA d 126 8 [v0, v1, v2] (.int x :: st) f Q = (if x < 0 then pz_R dA d 126 16 [v0, v1, v2] st f Q else pz_R dA d 126 11 [v0, v1, v2] st f Q) := pz_gj1 .lt d126_8 rfl
theorem d126_11 : decode (pz_b 126) 11 = .ok (.iload_n 2, 1) := by decide +kernel
theorem q126_11 {dA : Nat → ClassId} {d : Nat} {st : List Value} {f : pz_F} {Q : Option Value → pz_F → Prop} {v0 v1 : Value} {x : Int32} : pz_R dA d 126 11 [v0, v1, .int x] st f Q = pz_R dA d 126 12 [v0, v1, .int x] (.int x :: st) f Q := pz_go (pz_so d126_11 rfl)
theorem d126_12 : decode (pz_b 126) 12 = .ok (.iconst 3, 1) := by decide +kernel
theorem q126_12 {dA : Nat → ClassId} {d : Nat} {st : List Value} {f : pz_F} {Q : Option Value → pz_F → Prop} {v0 v1 v2 : Value} : pz_R dA d 126 12 [v0, v1, v2] st f Q = pz_R dA d 126 13 [v0, v1, v2] (.int 3 :: st) f Q := pz_go (pz_so d126_12 rfl)
theorem d126_13 : decode (pz_b 126) 13 = .ok (.if_icmp .le 6, 3) := by decide +kernel
theorem q126_13 {dA : Nat → ClassId} {d : Nat} {st : List Value} {f : pz_F} {Q : Option Value → pz_F → Prop} {v0 v1 v2 : Value} {x y : Int32} : pz_R dA d 126 13 [v0, v1, v2] (.int y :: .int x :: st) f Q = (if x ≤ y then pz_R dA d 126 19 [v0, v1, v2] st f Q else pz_R dA d 126 16 [v0, v1, v2] st f Q) := pz_gjn .le d126_13 rfl
theorem d126_16 : decode (pz_b 126) 16 = .ok (.bipush (-2), 2) := by decide +kernel
theorem q126_16 {dA : Nat → ClassId} {d : Nat} {st : List Value} {f : pz_F} {Q : Option Value → pz_F → Prop} {v0 v1 v2 : Value} : pz_R dA d 126 16 [v0, v1, v2] st f Q = pz_R dA d 126 18 [v0, v1, v2] (.int (-2) :: st) f Q := pz_go (pz_so d126_16 rfl)
theorem d126_18 : decode (pz_b 126) 18 = .ok (.ireturn, 1) := by decide +kernel
theorem q126_18 {dA : Nat → ClassId} {d : Nat} {f : pz_F} {Q : Option Value → pz_F → Prop} {v0 v1 v2 : Value} {x : Int32} : pz_R dA d 126 18 [v0, v1, v2] [.int x] f Q = Q (some (.int x)) f := pz_gri d126_18 rfl rfl
theorem d126_19 : decode (pz_b 126) 19 = .ok (.iload_n 2, 1) := by decide +kernel
theorem q126_19 {dA : Nat → ClassId} {d : Nat} {st : List Value} {f : pz_F} {Q : Option Value → pz_F → Prop} {v0 v1 : Value} {x : Int32} : pz_R dA d 126 19 [v0, v1, .int x] st f Q = pz_R dA d 126 20 [v0, v1, .int x] (.int x :: st) f Q := pz_go (pz_so d126_19 rfl)
theorem d126_20 : decode (pz_b 126) 20 = .ok (.ifCond .ne 12, 3) := by decide +kernel
theorem q126_20 {dA : Nat → ClassId} {d : Nat} {st : List Value} {f : pz_F} {Q : Option Value → pz_F → Prop} {v0 v1 v2 : Value} {x : Int32} : pz_R dA d 126 20 [v0, v1, v2] (.int x :: st) f Q = (if x = 0 then pz_R dA d 126 23 [v0, v1, v2] st f Q else pz_R dA d 126 32 [v0, v1, v2] st f Q) := pz_gj1 .ne d126_20 rfl
theorem d126_23 : decode (pz_b 126) 23 = .ok (.aload_n 0, 1) := by decide +kernel
theorem q126_23 {dA : Nat → ClassId} {d : Nat} {st : List Value} {f : pz_F} {Q : Option Value → pz_F → Prop} {v1 v2 : Value} {x : Nat} : pz_R dA d 126 23 [.ref x, v1, v2] st f Q = pz_R dA d 126 24 [.ref x, v1, v2] (.ref x :: st) f Q := pz_go (pz_so d126_23 rfl)
theorem d126_24 : decode (pz_b 126) 24 = .ok (.getfield 54, 3) := by decide +kernel
theorem q126_24 {dA : Nat → ClassId} {d : Nat} {st : List Value} {f : pz_F} {Q : Option Value → pz_F → Prop} {v0 v1 v2 : Value} {a : Nat} : pz_R dA d 126 24 [v0, v1, v2] (.ref a :: st) f Q = pz_o (pz_gf f a 6 15) (fun v => pz_R dA d 126 27 [v0, v1, v2] (v :: st) f Q) := pz_gg d126_24 rfl
theorem d126_27 : decode (pz_b 126) 27 = .ok (.iload_n 1, 1) := by decide +kernel
theorem q126_27 {dA : Nat → ClassId} {d : Nat} {st : List Value} {f : pz_F} {Q : Option Value → pz_F → Prop} {v0 v2 : Value} {x : Int32} : pz_R dA d 126 27 [v0, .int x, v2] st f Q = pz_R dA d 126 28 [v0, .int x, v2] (.int x :: st) f Q := pz_go (pz_so d126_27 rfl)
theorem d126_28 : decode (pz_b 126) 28 = .ok (.iaload, 1) := by decide +kernel
theorem q126_28 {dA : Nat → ClassId} {d : Nat} {st : List Value} {f : pz_F} {Q : Option Value → pz_F → Prop} {v0 v1 v2 : Value} {i : Int32} {a : Nat} : pz_R dA d 126 28 [v0, v1, v2] (.int i :: .ref a :: st) f Q = pz_o (pz_il (dA 0) f a i) (fun x => pz_R dA d 126 29 [v0, v1, v2] (.int x :: st) f Q) := pz_gil d126_28
theorem d126_29 : decode (pz_b 126) 29 = .ok (.goto 45, 3) := by decide +kernel
theorem q126_29 {dA : Nat → ClassId} {d : Nat} {st : List Value} {f : pz_F} {Q : Option Value → pz_F → Prop} {v0 v1 v2 : Value} : pz_R dA d 126 29 [v0, v1, v2] st f Q = pz_R dA d 126 74 [v0, v1, v2] st f Q := pz_go (pz_so d126_29 rfl)
theorem d126_32 : decode (pz_b 126) 32 = .ok (.iload_n 2, 1) := by decide +kernel
theorem q126_32 {dA : Nat → ClassId} {d : Nat} {st : List Value} {f : pz_F} {Q : Option Value → pz_F → Prop} {v0 v1 : Value} {x : Int32} : pz_R dA d 126 32 [v0, v1, .int x] st f Q = pz_R dA d 126 33 [v0, v1, .int x] (.int x :: st) f Q := pz_go (pz_so d126_32 rfl)
theorem d126_33 : decode (pz_b 126) 33 = .ok (.iconst 1, 1) := by decide +kernel
theorem q126_33 {dA : Nat → ClassId} {d : Nat} {st : List Value} {f : pz_F} {Q : Option Value → pz_F → Prop} {v0 v1 v2 : Value} : pz_R dA d 126 33 [v0, v1, v2] st f Q = pz_R dA d 126 34 [v0, v1, v2] (.int 1 :: st) f Q := pz_go (pz_so d126_33 rfl)
theorem d126_34 : decode (pz_b 126) 34 = .ok (.if_icmp .ne 12, 3) := by decide +kernel
theorem q126_34 {dA : Nat → ClassId} {d : Nat} {st : List Value} {f : pz_F} {Q : Option Value → pz_F → Prop} {v0 v1 v2 : Value} {x y : Int32} : pz_R dA d 126 34 [v0, v1, v2] (.int y :: .int x :: st) f Q = (if x = y then pz_R dA d 126 37 [v0, v1, v2] st f Q else pz_R dA d 126 46 [v0, v1, v2] st f Q) := pz_gjn .ne d126_34 rfl
theorem d126_37 : decode (pz_b 126) 37 = .ok (.aload_n 0, 1) := by decide +kernel
theorem q126_37 {dA : Nat → ClassId} {d : Nat} {st : List Value} {f : pz_F} {Q : Option Value → pz_F → Prop} {v1 v2 : Value} {x : Nat} : pz_R dA d 126 37 [.ref x, v1, v2] st f Q = pz_R dA d 126 38 [.ref x, v1, v2] (.ref x :: st) f Q := pz_go (pz_so d126_37 rfl)
theorem d126_38 : decode (pz_b 126) 38 = .ok (.getfield 57, 3) := by decide +kernel
theorem q126_38 {dA : Nat → ClassId} {d : Nat} {st : List Value} {f : pz_F} {Q : Option Value → pz_F → Prop} {v0 v1 v2 : Value} {a : Nat} : pz_R dA d 126 38 [v0, v1, v2] (.ref a :: st) f Q = pz_o (pz_gf f a 6 16) (fun v => pz_R dA d 126 41 [v0, v1, v2] (v :: st) f Q) := pz_gg d126_38 rfl
theorem d126_41 : decode (pz_b 126) 41 = .ok (.iload_n 1, 1) := by decide +kernel
theorem q126_41 {dA : Nat → ClassId} {d : Nat} {st : List Value} {f : pz_F} {Q : Option Value → pz_F → Prop} {v0 v2 : Value} {x : Int32} : pz_R dA d 126 41 [v0, .int x, v2] st f Q = pz_R dA d 126 42 [v0, .int x, v2] (.int x :: st) f Q := pz_go (pz_so d126_41 rfl)
theorem d126_42 : decode (pz_b 126) 42 = .ok (.iaload, 1) := by decide +kernel
theorem q126_42 {dA : Nat → ClassId} {d : Nat} {st : List Value} {f : pz_F} {Q : Option Value → pz_F → Prop} {v0 v1 v2 : Value} {i : Int32} {a : Nat} : pz_R dA d 126 42 [v0, v1, v2] (.int i :: .ref a :: st) f Q = pz_o (pz_il (dA 0) f a i) (fun x => pz_R dA d 126 43 [v0, v1, v2] (.int x :: st) f Q) := pz_gil d126_42
theorem d126_43 : decode (pz_b 126) 43 = .ok (.goto 31, 3) := by decide +kernel
theorem q126_43 {dA : Nat → ClassId} {d : Nat} {st : List Value} {f : pz_F} {Q : Option Value → pz_F → Prop} {v0 v1 v2 : Value} : pz_R dA d 126 43 [v0, v1, v2] st f Q = pz_R dA d 126 74 [v0, v1, v2] st f Q := pz_go (pz_so d126_43 rfl)
theorem d126_46 : decode (pz_b 126) 46 = .ok (.iload_n 2, 1) := by decide +kernel
theorem q126_46 {dA : Nat → ClassId} {d : Nat} {st : List Value} {f : pz_F} {Q : Option Value → pz_F → Prop} {v0 v1 : Value} {x : Int32} : pz_R dA d 126 46 [v0, v1, .int x] st f Q = pz_R dA d 126 47 [v0, v1, .int x] (.int x :: st) f Q := pz_go (pz_so d126_46 rfl)
theorem d126_47 : decode (pz_b 126) 47 = .ok (.iconst 2, 1) := by decide +kernel
theorem q126_47 {dA : Nat → ClassId} {d : Nat} {st : List Value} {f : pz_F} {Q : Option Value → pz_F → Prop} {v0 v1 v2 : Value} : pz_R dA d 126 47 [v0, v1, v2] st f Q = pz_R dA d 126 48 [v0, v1, v2] (.int 2 :: st) f Q := pz_go (pz_so d126_47 rfl)
theorem d126_48 : decode (pz_b 126) 48 = .ok (.if_icmp .ne 12, 3) := by decide +kernel
theorem q126_48 {dA : Nat → ClassId} {d : Nat} {st : List Value} {f : pz_F} {Q : Option Value → pz_F → Prop} {v0 v1 v2 : Value} {x y : Int32} : pz_R dA d 126 48 [v0, v1, v2] (.int y :: .int x :: st) f Q = (if x = y then pz_R dA d 126 51 [v0, v1, v2] st f Q else pz_R dA d 126 60 [v0, v1, v2] st f Q) := pz_gjn .ne d126_48 rfl
theorem d126_51 : decode (pz_b 126) 51 = .ok (.aload_n 0, 1) := by decide +kernel
theorem q126_51 {dA : Nat → ClassId} {d : Nat} {st : List Value} {f : pz_F} {Q : Option Value → pz_F → Prop} {v1 v2 : Value} {x : Nat} : pz_R dA d 126 51 [.ref x, v1, v2] st f Q = pz_R dA d 126 52 [.ref x, v1, v2] (.ref x :: st) f Q := pz_go (pz_so d126_51 rfl)
theorem d126_52 : decode (pz_b 126) 52 = .ok (.getfield 60, 3) := by decide +kernel
theorem q126_52 {dA : Nat → ClassId} {d : Nat} {st : List Value} {f : pz_F} {Q : Option Value → pz_F → Prop} {v0 v1 v2 : Value} {a : Nat} : pz_R dA d 126 52 [v0, v1, v2] (.ref a :: st) f Q = pz_o (pz_gf f a 6 17) (fun v => pz_R dA d 126 55 [v0, v1, v2] (v :: st) f Q) := pz_gg d126_52 rfl
theorem d126_55 : decode (pz_b 126) 55 = .ok (.iload_n 1, 1) := by decide +kernel
theorem q126_55 {dA : Nat → ClassId} {d : Nat} {st : List Value} {f : pz_F} {Q : Option Value → pz_F → Prop} {v0 v2 : Value} {x : Int32} : pz_R dA d 126 55 [v0, .int x, v2] st f Q = pz_R dA d 126 56 [v0, .int x, v2] (.int x :: st) f Q := pz_go (pz_so d126_55 rfl)
theorem d126_56 : decode (pz_b 126) 56 = .ok (.iaload, 1) := by decide +kernel
theorem q126_56 {dA : Nat → ClassId} {d : Nat} {st : List Value} {f : pz_F} {Q : Option Value → pz_F → Prop} {v0 v1 v2 : Value} {i : Int32} {a : Nat} : pz_R dA d 126 56 [v0, v1, v2] (.int i :: .ref a :: st) f Q = pz_o (pz_il (dA 0) f a i) (fun x => pz_R dA d 126 57 [v0, v1, v2] (.int x :: st) f Q) := pz_gil d126_56
theorem d126_57 : decode (pz_b 126) 57 = .ok (.goto 17, 3) := by decide +kernel
theorem q126_57 {dA : Nat → ClassId} {d : Nat} {st : List Value} {f : pz_F} {Q : Option Value → pz_F → Prop} {v0 v1 v2 : Value} : pz_R dA d 126 57 [v0, v1, v2] st f Q = pz_R dA d 126 74 [v0, v1, v2] st f Q := pz_go (pz_so d126_57 rfl)
theorem d126_60 : decode (pz_b 126) 60 = .ok (.aload_n 0, 1) := by decide +kernel
theorem q126_60 {dA : Nat → ClassId} {d : Nat} {st : List Value} {f : pz_F} {Q : Option Value → pz_F → Prop} {v1 v2 : Value} {x : Nat} : pz_R dA d 126 60 [.ref x, v1, v2] st f Q = pz_R dA d 126 61 [.ref x, v1, v2] (.ref x :: st) f Q := pz_go (pz_so d126_60 rfl)
theorem d126_61 : decode (pz_b 126) 61 = .ok (.getfield 63, 3) := by decide +kernel
theorem q126_61 {dA : Nat → ClassId} {d : Nat} {st : List Value} {f : pz_F} {Q : Option Value → pz_F → Prop} {v0 v1 v2 : Value} {a : Nat} : pz_R dA d 126 61 [v0, v1, v2] (.ref a :: st) f Q = pz_o (pz_gf f a 6 18) (fun v => pz_R dA d 126 64 [v0, v1, v2] (v :: st) f Q) := pz_gg d126_61 rfl
theorem d126_64 : decode (pz_b 126) 64 = .ok (.iload_n 1, 1) := by decide +kernel
theorem q126_64 {dA : Nat → ClassId} {d : Nat} {st : List Value} {f : pz_F} {Q : Option Value → pz_F → Prop} {v0 v2 : Value} {x : Int32} : pz_R dA d 126 64 [v0, .int x, v2] st f Q = pz_R dA d 126 65 [v0, .int x, v2] (.int x :: st) f Q := pz_go (pz_so d126_64 rfl)
theorem d126_65 : decode (pz_b 126) 65 = .ok (.baload, 1) := by decide +kernel
theorem q126_65 {dA : Nat → ClassId} {d : Nat} {st : List Value} {f : pz_F} {Q : Option Value → pz_F → Prop} {v0 v1 v2 : Value} {i : Int32} {a : Nat} : pz_R dA d 126 65 [v0, v1, v2] (.int i :: .ref a :: st) f Q = pz_o (pz_il (dA 1) f a i) (fun x => pz_R dA d 126 66 [v0, v1, v2] (.int x :: st) f Q) := pz_gzl d126_65
theorem d126_66 : decode (pz_b 126) 66 = .ok (.ifCond .eq 7, 3) := by decide +kernel
theorem q126_66 {dA : Nat → ClassId} {d : Nat} {st : List Value} {f : pz_F} {Q : Option Value → pz_F → Prop} {v0 v1 v2 : Value} {x : Int32} : pz_R dA d 126 66 [v0, v1, v2] (.int x :: st) f Q = (if x = 0 then pz_R dA d 126 73 [v0, v1, v2] st f Q else pz_R dA d 126 69 [v0, v1, v2] st f Q) := pz_gj1 .eq d126_66 rfl
theorem d126_69 : decode (pz_b 126) 69 = .ok (.iconst 1, 1) := by decide +kernel
theorem q126_69 {dA : Nat → ClassId} {d : Nat} {st : List Value} {f : pz_F} {Q : Option Value → pz_F → Prop} {v0 v1 v2 : Value} : pz_R dA d 126 69 [v0, v1, v2] st f Q = pz_R dA d 126 70 [v0, v1, v2] (.int 1 :: st) f Q := pz_go (pz_so d126_69 rfl)
theorem d126_70 : decode (pz_b 126) 70 = .ok (.goto 4, 3) := by decide +kernel
theorem q126_70 {dA : Nat → ClassId} {d : Nat} {st : List Value} {f : pz_F} {Q : Option Value → pz_F → Prop} {v0 v1 v2 : Value} : pz_R dA d 126 70 [v0, v1, v2] st f Q = pz_R dA d 126 74 [v0, v1, v2] st f Q := pz_go (pz_so d126_70 rfl)
theorem d126_73 : decode (pz_b 126) 73 = .ok (.iconst 0, 1) := by decide +kernel
theorem q126_73 {dA : Nat → ClassId} {d : Nat} {st : List Value} {f : pz_F} {Q : Option Value → pz_F → Prop} {v0 v1 v2 : Value} : pz_R dA d 126 73 [v0, v1, v2] st f Q = pz_R dA d 126 74 [v0, v1, v2] (.int 0 :: st) f Q := pz_go (pz_so d126_73 rfl)
theorem d126_74 : decode (pz_b 126) 74 = .ok (.ireturn, 1) := by decide +kernel
theorem q126_74 {dA : Nat → ClassId} {d : Nat} {f : pz_F} {Q : Option Value → pz_F → Prop} {v0 v1 v2 : Value} {x : Int32} : pz_R dA d 126 74 [v0, v1, v2] [.int x] f Q = Q (some (.int x)) f := pz_gri d126_74 rfl rfl
/-! X_messages ()I -/
theorem e127 {dA : Nat → ClassId} {d : Nat} {f : pz_F} {Q : Option Value → pz_F → Prop} {a0 : Nat} : pz_C dA d 127 [.ref a0] f Q = pz_R dA d 127 0 [.ref a0] [] f Q := rfl
theorem d127_0 : decode (pz_b 127) 0 = .ok (.aload_n 0, 1) := by decide +kernel
theorem q127_0 {dA : Nat → ClassId} {d : Nat} {st : List Value} {f : pz_F} {Q : Option Value → pz_F → Prop} {x : Nat} : pz_R dA d 127 0 [.ref x] st f Q = pz_R dA d 127 1 [.ref x] (.ref x :: st) f Q := pz_go (pz_so d127_0 rfl)
theorem d127_1 : decode (pz_b 127) 1 = .ok (.getfield 82, 3) := by decide +kernel
theorem q127_1 {dA : Nat → ClassId} {d : Nat} {st : List Value} {f : pz_F} {Q : Option Value → pz_F → Prop} {v0 : Value} {a : Nat} : pz_R dA d 127 1 [v0] (.ref a :: st) f Q = pz_o (pz_gf f a 6 20) (fun v => pz_R dA d 127 4 [v0] (v :: st) f Q) := pz_gg d127_1 rfl
theorem d127_4 : decode (pz_b 127) 4 = .ok (.ireturn, 1) := by decide +kernel
theorem q127_4 {dA : Nat → ClassId} {d : Nat} {f : pz_F} {Q : Option Value → pz_F → Prop} {v0 : Value} {x : Int32} : pz_R dA d 127 4 [v0] [.int x] f Q = Q (some (.int x)) f := pz_gri d127_4 rfl rfl
/-! X_message (II)I -/
theorem e128 {dA : Nat → ClassId} {d : Nat} {f : pz_F} {Q : Option Value → pz_F → Prop} {a0 : Nat} {a1 : Int32} {a2 : Int32} : pz_C dA d 128 [.ref a0, .int a1, .int a2] f Q = pz_R dA d 128 0 [.ref a0, .int a1, .int a2] [] f Q := rfl
theorem d128_0 : decode (pz_b 128) 0 = .ok (.iload_n 1, 1) := by decide +kernel
theorem q128_0 {dA : Nat → ClassId} {d : Nat} {st : List Value} {f : pz_F} {Q : Option Value → pz_F → Prop} {v0 v2 : Value} {x : Int32} : pz_R dA d 128 0 [v0, .int x, v2] st f Q = pz_R dA d 128 1 [v0, .int x, v2] (.int x :: st) f Q := pz_go (pz_so d128_0 rfl)
theorem d128_1 : decode (pz_b 128) 1 = .ok (.ifCond .lt 20, 3) := by decide +kernel
theorem q128_1 {dA : Nat → ClassId} {d : Nat} {st : List Value} {f : pz_F} {Q : Option Value → pz_F → Prop} {v0 v1 v2 : Value} {x : Int32} : pz_R dA d 128 1 [v0, v1, v2] (.int x :: st) f Q = (if x < 0 then pz_R dA d 128 21 [v0, v1, v2] st f Q else pz_R dA d 128 4 [v0, v1, v2] st f Q) := pz_gj1 .lt d128_1 rfl
theorem d128_4 : decode (pz_b 128) 4 = .ok (.iload_n 1, 1) := by decide +kernel
theorem q128_4 {dA : Nat → ClassId} {d : Nat} {st : List Value} {f : pz_F} {Q : Option Value → pz_F → Prop} {v0 v2 : Value} {x : Int32} : pz_R dA d 128 4 [v0, .int x, v2] st f Q = pz_R dA d 128 5 [v0, .int x, v2] (.int x :: st) f Q := pz_go (pz_so d128_4 rfl)
theorem d128_5 : decode (pz_b 128) 5 = .ok (.aload_n 0, 1) := by decide +kernel
theorem q128_5 {dA : Nat → ClassId} {d : Nat} {st : List Value} {f : pz_F} {Q : Option Value → pz_F → Prop} {v1 v2 : Value} {x : Nat} : pz_R dA d 128 5 [.ref x, v1, v2] st f Q = pz_R dA d 128 6 [.ref x, v1, v2] (.ref x :: st) f Q := pz_go (pz_so d128_5 rfl)
theorem d128_6 : decode (pz_b 128) 6 = .ok (.getfield 82, 3) := by decide +kernel
theorem q128_6 {dA : Nat → ClassId} {d : Nat} {st : List Value} {f : pz_F} {Q : Option Value → pz_F → Prop} {v0 v1 v2 : Value} {a : Nat} : pz_R dA d 128 6 [v0, v1, v2] (.ref a :: st) f Q = pz_o (pz_gf f a 6 20) (fun v => pz_R dA d 128 9 [v0, v1, v2] (v :: st) f Q) := pz_gg d128_6 rfl
theorem d128_9 : decode (pz_b 128) 9 = .ok (.if_icmp .ge 12, 3) := by decide +kernel
theorem q128_9 {dA : Nat → ClassId} {d : Nat} {st : List Value} {f : pz_F} {Q : Option Value → pz_F → Prop} {v0 v1 v2 : Value} {x y : Int32} : pz_R dA d 128 9 [v0, v1, v2] (.int y :: .int x :: st) f Q = (if y ≤ x then pz_R dA d 128 21 [v0, v1, v2] st f Q else pz_R dA d 128 12 [v0, v1, v2] st f Q) := pz_gjn .ge d128_9 rfl
theorem d128_12 : decode (pz_b 128) 12 = .ok (.iload_n 2, 1) := by decide +kernel
theorem q128_12 {dA : Nat → ClassId} {d : Nat} {st : List Value} {f : pz_F} {Q : Option Value → pz_F → Prop} {v0 v1 : Value} {x : Int32} : pz_R dA d 128 12 [v0, v1, .int x] st f Q = pz_R dA d 128 13 [v0, v1, .int x] (.int x :: st) f Q := pz_go (pz_so d128_12 rfl)
theorem d128_13 : decode (pz_b 128) 13 = .ok (.ifCond .lt 8, 3) := by decide +kernel
theorem q128_13 {dA : Nat → ClassId} {d : Nat} {st : List Value} {f : pz_F} {Q : Option Value → pz_F → Prop} {v0 v1 v2 : Value} {x : Int32} : pz_R dA d 128 13 [v0, v1, v2] (.int x :: st) f Q = (if x < 0 then pz_R dA d 128 21 [v0, v1, v2] st f Q else pz_R dA d 128 16 [v0, v1, v2] st f Q) := pz_gj1 .lt d128_13 rfl
theorem d128_16 : decode (pz_b 128) 16 = .ok (.iload_n 2, 1) := by decide +kernel
theorem q128_16 {dA : Nat → ClassId} {d : Nat} {st : List Value} {f : pz_F} {Q : Option Value → pz_F → Prop} {v0 v1 : Value} {x : Int32} : pz_R dA d 128 16 [v0, v1, .int x] st f Q = pz_R dA d 128 17 [v0, v1, .int x] (.int x :: st) f Q := pz_go (pz_so d128_16 rfl)
theorem d128_17 : decode (pz_b 128) 17 = .ok (.iconst 5, 1) := by decide +kernel
theorem q128_17 {dA : Nat → ClassId} {d : Nat} {st : List Value} {f : pz_F} {Q : Option Value → pz_F → Prop} {v0 v1 v2 : Value} : pz_R dA d 128 17 [v0, v1, v2] st f Q = pz_R dA d 128 18 [v0, v1, v2] (.int 5 :: st) f Q := pz_go (pz_so d128_17 rfl)
theorem d128_18 : decode (pz_b 128) 18 = .ok (.if_icmp .le 8, 3) := by decide +kernel
theorem q128_18 {dA : Nat → ClassId} {d : Nat} {st : List Value} {f : pz_F} {Q : Option Value → pz_F → Prop} {v0 v1 v2 : Value} {x y : Int32} : pz_R dA d 128 18 [v0, v1, v2] (.int y :: .int x :: st) f Q = (if x ≤ y then pz_R dA d 128 26 [v0, v1, v2] st f Q else pz_R dA d 128 21 [v0, v1, v2] st f Q) := pz_gjn .le d128_18 rfl
theorem d128_21 : decode (pz_b 128) 21 = .ok (.bipush (-2), 2) := by decide +kernel
theorem q128_21 {dA : Nat → ClassId} {d : Nat} {st : List Value} {f : pz_F} {Q : Option Value → pz_F → Prop} {v0 v1 v2 : Value} : pz_R dA d 128 21 [v0, v1, v2] st f Q = pz_R dA d 128 23 [v0, v1, v2] (.int (-2) :: st) f Q := pz_go (pz_so d128_21 rfl)
theorem d128_23 : decode (pz_b 128) 23 = .ok (.goto 14, 3) := by decide +kernel
theorem q128_23 {dA : Nat → ClassId} {d : Nat} {st : List Value} {f : pz_F} {Q : Option Value → pz_F → Prop} {v0 v1 v2 : Value} : pz_R dA d 128 23 [v0, v1, v2] st f Q = pz_R dA d 128 37 [v0, v1, v2] st f Q := pz_go (pz_so d128_23 rfl)
theorem d128_26 : decode (pz_b 128) 26 = .ok (.aload_n 0, 1) := by decide +kernel
theorem q128_26 {dA : Nat → ClassId} {d : Nat} {st : List Value} {f : pz_F} {Q : Option Value → pz_F → Prop} {v1 v2 : Value} {x : Nat} : pz_R dA d 128 26 [.ref x, v1, v2] st f Q = pz_R dA d 128 27 [.ref x, v1, v2] (.ref x :: st) f Q := pz_go (pz_so d128_26 rfl)
theorem d128_27 : decode (pz_b 128) 27 = .ok (.getfield 69, 3) := by decide +kernel
theorem q128_27 {dA : Nat → ClassId} {d : Nat} {st : List Value} {f : pz_F} {Q : Option Value → pz_F → Prop} {v0 v1 v2 : Value} {a : Nat} : pz_R dA d 128 27 [v0, v1, v2] (.ref a :: st) f Q = pz_o (pz_gf f a 6 21) (fun v => pz_R dA d 128 30 [v0, v1, v2] (v :: st) f Q) := pz_gg d128_27 rfl
theorem d128_30 : decode (pz_b 128) 30 = .ok (.bipush 12, 2) := by decide +kernel
theorem q128_30 {dA : Nat → ClassId} {d : Nat} {st : List Value} {f : pz_F} {Q : Option Value → pz_F → Prop} {v0 v1 v2 : Value} : pz_R dA d 128 30 [v0, v1, v2] st f Q = pz_R dA d 128 32 [v0, v1, v2] (.int 12 :: st) f Q := pz_go (pz_so d128_30 rfl)
theorem d128_32 : decode (pz_b 128) 32 = .ok (.iload_n 1, 1) := by decide +kernel
theorem q128_32 {dA : Nat → ClassId} {d : Nat} {st : List Value} {f : pz_F} {Q : Option Value → pz_F → Prop} {v0 v2 : Value} {x : Int32} : pz_R dA d 128 32 [v0, .int x, v2] st f Q = pz_R dA d 128 33 [v0, .int x, v2] (.int x :: st) f Q := pz_go (pz_so d128_32 rfl)
theorem d128_33 : decode (pz_b 128) 33 = .ok (.imul, 1) := by decide +kernel
theorem q128_33 {dA : Nat → ClassId} {d : Nat} {st : List Value} {f : pz_F} {Q : Option Value → pz_F → Prop} {v0 v1 v2 : Value} {x y : Int32} : pz_R dA d 128 33 [v0, v1, v2] (.int y :: .int x :: st) f Q = pz_R dA d 128 34 [v0, v1, v2] (.int (x * y) :: st) f Q := pz_go (pz_so d128_33 rfl)
theorem d128_34 : decode (pz_b 128) 34 = .ok (.iload_n 2, 1) := by decide +kernel
theorem q128_34 {dA : Nat → ClassId} {d : Nat} {st : List Value} {f : pz_F} {Q : Option Value → pz_F → Prop} {v0 v1 : Value} {x : Int32} : pz_R dA d 128 34 [v0, v1, .int x] st f Q = pz_R dA d 128 35 [v0, v1, .int x] (.int x :: st) f Q := pz_go (pz_so d128_34 rfl)
theorem d128_35 : decode (pz_b 128) 35 = .ok (.iadd, 1) := by decide +kernel
theorem q128_35 {dA : Nat → ClassId} {d : Nat} {st : List Value} {f : pz_F} {Q : Option Value → pz_F → Prop} {v0 v1 v2 : Value} {x y : Int32} : pz_R dA d 128 35 [v0, v1, v2] (.int y :: .int x :: st) f Q = pz_R dA d 128 36 [v0, v1, v2] (.int (x + y) :: st) f Q := pz_go (pz_so d128_35 rfl)
theorem d128_36 : decode (pz_b 128) 36 = .ok (.iaload, 1) := by decide +kernel
theorem q128_36 {dA : Nat → ClassId} {d : Nat} {st : List Value} {f : pz_F} {Q : Option Value → pz_F → Prop} {v0 v1 v2 : Value} {i : Int32} {a : Nat} : pz_R dA d 128 36 [v0, v1, v2] (.int i :: .ref a :: st) f Q = pz_o (pz_il (dA 0) f a i) (fun x => pz_R dA d 128 37 [v0, v1, v2] (.int x :: st) f Q) := pz_gil d128_36
theorem d128_37 : decode (pz_b 128) 37 = .ok (.ireturn, 1) := by decide +kernel
theorem q128_37 {dA : Nat → ClassId} {d : Nat} {f : pz_F} {Q : Option Value → pz_F → Prop} {v0 v1 v2 : Value} {x : Int32} : pz_R dA d 128 37 [v0, v1, v2] [.int x] f Q = Q (some (.int x)) f := pz_gri d128_37 rfl rfl
