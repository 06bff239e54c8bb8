/-! X_beat (I)V -/
theorem e116 {dA : Nat → ClassId} {d : Nat} {f : pz_F} {Q : Option Value → pz_F → Prop} {a0 : Nat} {a1 : Int32} : pz_C dA d 116 [.ref a0, .int a1] f Q = pz_R dA d 116 0 [.ref a0, .int a1, .retAddr 0, .retAddr 0, .retAddr 0] [] f Q := rfl
theorem d116_0 : decode (pz_b 116) 0 = .ok (.aload_n 0, 1) := by decide +kernel
theorem q116_0 {dA : Nat → ClassId} {d : Nat} {st : List Value} {f : pz_F} {Q : Option Value → pz_F → Prop} {v1 v2 v3 v4 : Value} {x : Nat} : pz_R dA d 116 0 [.ref x, v1, v2, v3, v4] st f Q = pz_R dA d 116 1 [.ref x, v1, v2, v3, v4] (.ref x :: st) f Q := pz_go (pz_so d116_0 rfl)
theorem d116_1 : decode (pz_b 116) 1 = .ok (.invokevirtual 159, 3) := by decide +kernel
theorem q116_1 {dA : Nat → ClassId} {d : Nat} {st : List Value} {f : pz_F} {Q : Option Value → pz_F → Prop} {v0 v1 v2 v3 v4 : Value} {b : Nat} (hr : st.length ≤ 4) : pz_R dA (d + 1) 116 1 [v0, v1, v2, v3, v4] (.ref b :: st) f Q = pz_o (pz_gu f b 6) (fun _ => pz_C dA d 90 [.ref b] f (fun r f' => pz_R dA (d + 1) 116 4 [v0, v1, v2, v3, v4] (r.toList ++ st) f' Q)) := pz_gcv (As := []) d116_1 rfl rfl rfl hr
theorem d116_4 : decode (pz_b 116) 4 = .ok (.istore_n 2, 1) := by decide +kernel
theorem q116_4 {dA : Nat → ClassId} {d : Nat} {st : List Value} {f : pz_F} {Q : Option Value → pz_F → Prop} {v0 v1 v2 v3 v4 : Value} {x : Int32} : pz_R dA d 116 4 [v0, v1, v2, v3, v4] (.int x :: st) f Q = pz_R dA d 116 5 [v0, v1, .int x, v3, v4] st f Q := pz_go (pz_so d116_4 rfl)
theorem d116_5 : decode (pz_b 116) 5 = .ok (.aload_n 0, 1) := by decide +kernel
theorem q116_5 {dA : Nat → ClassId} {d : Nat} {st : List Value} {f : pz_F} {Q : Option Value → pz_F → Prop} {v1 v2 v3 v4 : Value} {x : Nat} : pz_R dA d 116 5 [.ref x, v1, v2, v3, v4] st f Q = pz_R dA d 116 6 [.ref x, v1, v2, v3, v4] (.ref x :: st) f Q := pz_go (pz_so d116_5 rfl)
theorem d116_6 : decode (pz_b 116) 6 = .ok (.getfield 13, 3) := by decide +kernel
theorem q116_6 {dA : Nat → ClassId} {d : Nat} {st : List Value} {f : pz_F} {Q : Option Value → pz_F → Prop} {v0 v1 v2 v3 v4 : Value} {a : Nat} : pz_R dA d 116 6 [v0, v1, v2, v3, v4] (.ref a :: st) f Q = pz_o (pz_gf f a 6 2) (fun v => pz_R dA d 116 9 [v0, v1, v2, v3, v4] (v :: st) f Q) := pz_gg d116_6 rfl
theorem d116_9 : decode (pz_b 116) 9 = .ok (.iload_n 1, 1) := by decide +kernel
theorem q116_9 {dA : Nat → ClassId} {d : Nat} {st : List Value} {f : pz_F} {Q : Option Value → pz_F → Prop} {v0 v2 v3 v4 : Value} {x : Int32} : pz_R dA d 116 9 [v0, .int x, v2, v3, v4] st f Q = pz_R dA d 116 10 [v0, .int x, v2, v3, v4] (.int x :: st) f Q := pz_go (pz_so d116_9 rfl)
theorem d116_10 : decode (pz_b 116) 10 = .ok (.iaload, 1) := by decide +kernel
theorem q116_10 {dA : Nat → ClassId} {d : Nat} {st : List Value} {f : pz_F} {Q : Option Value → pz_F → Prop} {v0 v1 v2 v3 v4 : Value} {i : Int32} {a : Nat} : pz_R dA d 116 10 [v0, v1, v2, v3, v4] (.int i :: .ref a :: st) f Q = pz_o (pz_il (dA 0) f a i) (fun x => pz_R dA d 116 11 [v0, v1, v2, v3, v4] (.int x :: st) f Q) := pz_gil d116_10
theorem d116_11 : decode (pz_b 116) 11 = .ok (.iconst 1, 1) := by decide +kernel
theorem q116_11 {dA : Nat → ClassId} {d : Nat} {st : List Value} {f : pz_F} {Q : Option Value → pz_F → Prop} {v0 v1 v2 v3 v4 : Value} : pz_R dA d 116 11 [v0, v1, v2, v3, v4] st f Q = pz_R dA d 116 12 [v0, v1, v2, v3, v4] (.int 1 :: st) f Q := pz_go (pz_so d116_11 rfl)
theorem d116_12 : decode (pz_b 116) 12 = .ok (.if_icmp .ne 17, 3) := by decide +kernel
theorem q116_12 {dA : Nat → ClassId} {d : Nat} {st : List Value} {f : pz_F} {Q : Option Value → pz_F → Prop} {v0 v1 v2 v3 v4 : Value} {x y : Int32} : pz_R dA d 116 12 [v0, v1, v2, v3, v4] (.int y :: .int x :: st) f Q = (if x = y then pz_R dA d 116 15 [v0, v1, v2, v3, v4] st f Q else pz_R dA d 116 29 [v0, v1, v2, v3, v4] st f Q) := pz_gjn .ne d116_12 rfl
theorem d116_15 : decode (pz_b 116) 15 = .ok (.iload_n 2, 1) := by decide +kernel
theorem q116_15 {dA : Nat → ClassId} {d : Nat} {st : List Value} {f : pz_F} {Q : Option Value → pz_F → Prop} {v0 v1 v3 v4 : Value} {x : Int32} : pz_R dA d 116 15 [v0, v1, .int x, v3, v4] st f Q = pz_R dA d 116 16 [v0, v1, .int x, v3, v4] (.int x :: st) f Q := pz_go (pz_so d116_15 rfl)
theorem d116_16 : decode (pz_b 116) 16 = .ok (.ifCond .ne 13, 3) := by decide +kernel
theorem q116_16 {dA : Nat → ClassId} {d : Nat} {st : List Value} {f : pz_F} {Q : Option Value → pz_F → Prop} {v0 v1 v2 v3 v4 : Value} {x : Int32} : pz_R dA d 116 16 [v0, v1, v2, v3, v4] (.int x :: st) f Q = (if x = 0 then pz_R dA d 116 19 [v0, v1, v2, v3, v4] st f Q else pz_R dA d 116 29 [v0, v1, v2, v3, v4] st f Q) := pz_gj1 .ne d116_16 rfl
theorem d116_19 : decode (pz_b 116) 19 = .ok (.aload_n 0, 1) := by decide +kernel
theorem q116_19 {dA : Nat → ClassId} {d : Nat} {st : List Value} {f : pz_F} {Q : Option Value → pz_F → Prop} {v1 v2 v3 v4 : Value} {x : Nat} : pz_R dA d 116 19 [.ref x, v1, v2, v3, v4] st f Q = pz_R dA d 116 20 [.ref x, v1, v2, v3, v4] (.ref x :: st) f Q := pz_go (pz_so d116_19 rfl)
theorem d116_20 : decode (pz_b 116) 20 = .ok (.getfield 13, 3) := by decide +kernel
theorem q116_20 {dA : Nat → ClassId} {d : Nat} {st : List Value} {f : pz_F} {Q : Option Value → pz_F → Prop} {v0 v1 v2 v3 v4 : Value} {a : Nat} : pz_R dA d 116 20 [v0, v1, v2, v3, v4] (.ref a :: st) f Q = pz_o (pz_gf f a 6 2) (fun v => pz_R dA d 116 23 [v0, v1, v2, v3, v4] (v :: st) f Q) := pz_gg d116_20 rfl
theorem d116_23 : decode (pz_b 116) 23 = .ok (.iload_n 1, 1) := by decide +kernel
theorem q116_23 {dA : Nat → ClassId} {d : Nat} {st : List Value} {f : pz_F} {Q : Option Value → pz_F → Prop} {v0 v2 v3 v4 : Value} {x : Int32} : pz_R dA d 116 23 [v0, .int x, v2, v3, v4] st f Q = pz_R dA d 116 24 [v0, .int x, v2, v3, v4] (.int x :: st) f Q := pz_go (pz_so d116_23 rfl)
theorem d116_24 : decode (pz_b 116) 24 = .ok (.iconst 2, 1) := by decide +kernel
theorem q116_24 {dA : Nat → ClassId} {d : Nat} {st : List Value} {f : pz_F} {Q : Option Value → pz_F → Prop} {v0 v1 v2 v3 v4 : Value} : pz_R dA d 116 24 [v0, v1, v2, v3, v4] st f Q = pz_R dA d 116 25 [v0, v1, v2, v3, v4] (.int 2 :: st) f Q := pz_go (pz_so d116_24 rfl)
theorem d116_25 : decode (pz_b 116) 25 = .ok (.iastore, 1) := by decide +kernel
theorem q116_25 {dA : Nat → ClassId} {d : Nat} {st : List Value} {f : pz_F} {Q : Option Value → pz_F → Prop} {v0 v1 v2 v3 v4 : Value} {x i : Int32} {a : Nat} : pz_R dA d 116 25 [v0, v1, v2, v3, v4] (.int x :: .int i :: .ref a :: st) f Q = pz_o (pz_is (dA 0) f a i x) (fun f' => pz_R dA d 116 26 [v0, v1, v2, v3, v4] st f' Q) := pz_gis d116_25
theorem d116_26 : decode (pz_b 116) 26 = .ok (.goto 75, 3) := by decide +kernel
theorem q116_26 {dA : Nat → ClassId} {d : Nat} {st : List Value} {f : pz_F} {Q : Option Value → pz_F → Prop} {v0 v1 v2 v3 v4 : Value} : pz_R dA d 116 26 [v0, v1, v2, v3, v4] st f Q = pz_R dA d 116 101 [v0, v1, v2, v3, v4] st f Q := pz_go (pz_so d116_26 rfl)
theorem d116_29 : decode (pz_b 116) 29 = .ok (.aload_n 0, 1) := by decide +kernel
theorem q116_29 {dA : Nat → ClassId} {d : Nat} {st : List Value} {f : pz_F} {Q : Option Value → pz_F → Prop} {v1 v2 v3 v4 : Value} {x : Nat} : pz_R dA d 116 29 [.ref x, v1, v2, v3, v4] st f Q = pz_R dA d 116 30 [.ref x, v1, v2, v3, v4] (.ref x :: st) f Q := pz_go (pz_so d116_29 rfl)
theorem d116_30 : decode (pz_b 116) 30 = .ok (.getfield 13, 3) := by decide +kernel
theorem q116_30 {dA : Nat → ClassId} {d : Nat} {st : List Value} {f : pz_F} {Q : Option Value → pz_F → Prop} {v0 v1 v2 v3 v4 : Value} {a : Nat} : pz_R dA d 116 30 [v0, v1, v2, v3, v4] (.ref a :: st) f Q = pz_o (pz_gf f a 6 2) (fun v => pz_R dA d 116 33 [v0, v1, v2, v3, v4] (v :: st) f Q) := pz_gg d116_30 rfl
theorem d116_33 : decode (pz_b 116) 33 = .ok (.iload_n 1, 1) := by decide +kernel
theorem q116_33 {dA : Nat → ClassId} {d : Nat} {st : List Value} {f : pz_F} {Q : Option Value → pz_F → Prop} {v0 v2 v3 v4 : Value} {x : Int32} : pz_R dA d 116 33 [v0, .int x, v2, v3, v4] st f Q = pz_R dA d 116 34 [v0, .int x, v2, v3, v4] (.int x :: st) f Q := pz_go (pz_so d116_33 rfl)
theorem d116_34 : decode (pz_b 116) 34 = .ok (.iaload, 1) := by decide +kernel
theorem q116_34 {dA : Nat → ClassId} {d : Nat} {st : List Value} {f : pz_F} {Q : Option Value → pz_F → Prop} {v0 v1 v2 v3 v4 : Value} {i : Int32} {a : Nat} : pz_R dA d 116 34 [v0, v1, v2, v3, v4] (.int i :: .ref a :: st) f Q = pz_o (pz_il (dA 0) f a i) (fun x => pz_R dA d 116 35 [v0, v1, v2, v3, v4] (.int x :: st) f Q) := pz_gil d116_34
theorem d116_35 : decode (pz_b 116) 35 = .ok (.iconst 2, 1) := by decide +kernel
theorem q116_35 {dA : Nat → ClassId} {d : Nat} {st : List Value} {f : pz_F} {Q : Option Value → pz_F → Prop} {v0 v1 v2 v3 v4 : Value} : pz_R dA d 116 35 [v0, v1, v2, v3, v4] st f Q = pz_R dA d 116 36 [v0, v1, v2, v3, v4] (.int 2 :: st) f Q := pz_go (pz_so d116_35 rfl)
theorem d116_36 : decode (pz_b 116) 36 = .ok (.if_icmp .ne 17, 3) := by decide +kernel
theorem q116_36 {dA : Nat → ClassId} {d : Nat} {st : List Value} {f : pz_F} {Q : Option Value → pz_F → Prop} {v0 v1 v2 v3 v4 : Value} {x y : Int32} : pz_R dA d 116 36 [v0, v1, v2, v3, v4] (.int y :: .int x :: st) f Q = (if x = y then pz_R dA d 116 39 [v0, v1, v2, v3, v4] st f Q else pz_R dA d 116 53 [v0, v1, v2, v3, v4] st f Q) := pz_gjn .ne d116_36 rfl
theorem d116_39 : decode (pz_b 116) 39 = .ok (.iload_n 2, 1) := by decide +kernel
theorem q116_39 {dA : Nat → ClassId} {d : Nat} {st : List Value} {f : pz_F} {Q : Option Value → pz_F → Prop} {v0 v1 v3 v4 : Value} {x : Int32} : pz_R dA d 116 39 [v0, v1, .int x, v3, v4] st f Q = pz_R dA d 116 40 [v0, v1, .int x, v3, v4] (.int x :: st) f Q := pz_go (pz_so d116_39 rfl)
theorem d116_40 : decode (pz_b 116) 40 = .ok (.ifCond .eq 13, 3) := by decide +kernel
theorem q116_40 {dA : Nat → ClassId} {d : Nat} {st : List Value} {f : pz_F} {Q : Option Value → pz_F → Prop} {v0 v1 v2 v3 v4 : Value} {x : Int32} : pz_R dA d 116 40 [v0, v1, v2, v3, v4] (.int x :: st) f Q = (if x = 0 then pz_R dA d 116 53 [v0, v1, v2, v3, v4] st f Q else pz_R dA d 116 43 [v0, v1, v2, v3, v4] st f Q) := pz_gj1 .eq d116_40 rfl
theorem d116_43 : decode (pz_b 116) 43 = .ok (.aload_n 0, 1) := by decide +kernel
theorem q116_43 {dA : Nat → ClassId} {d : Nat} {st : List Value} {f : pz_F} {Q : Option Value → pz_F → Prop} {v1 v2 v3 v4 : Value} {x : Nat} : pz_R dA d 116 43 [.ref x, v1, v2, v3, v4] st f Q = pz_R dA d 116 44 [.ref x, v1, v2, v3, v4] (.ref x :: st) f Q := pz_go (pz_so d116_43 rfl)
theorem d116_44 : decode (pz_b 116) 44 = .ok (.getfield 13, 3) := by decide +kernel
theorem q116_44 {dA : Nat → ClassId} {d : Nat} {st : List Value} {f : pz_F} {Q : Option Value → pz_F → Prop} {v0 v1 v2 v3 v4 : Value} {a : Nat} : pz_R dA d 116 44 [v0, v1, v2, v3, v4] (.ref a :: st) f Q = pz_o (pz_gf f a 6 2) (fun v => pz_R dA d 116 47 [v0, v1, v2, v3, v4] (v :: st) f Q) := pz_gg d116_44 rfl
theorem d116_47 : decode (pz_b 116) 47 = .ok (.iload_n 1, 1) := by decide +kernel
theorem q116_47 {dA : Nat → ClassId} {d : Nat} {st : List Value} {f : pz_F} {Q : Option Value → pz_F → Prop} {v0 v2 v3 v4 : Value} {x : Int32} : pz_R dA d 116 47 [v0, .int x, v2, v3, v4] st f Q = pz_R dA d 116 48 [v0, .int x, v2, v3, v4] (.int x :: st) f Q := pz_go (pz_so d116_47 rfl)
theorem d116_48 : decode (pz_b 116) 48 = .ok (.iconst 1, 1) := by decide +kernel
theorem q116_48 {dA : Nat → ClassId} {d : Nat} {st : List Value} {f : pz_F} {Q : Option Value → pz_F → Prop} {v0 v1 v2 v3 v4 : Value} : pz_R dA d 116 48 [v0, v1, v2, v3, v4] st f Q = pz_R dA d 116 49 [v0, v1, v2, v3, v4] (.int 1 :: st) f Q := pz_go (pz_so d116_48 rfl)
theorem d116_49 : decode (pz_b 116) 49 = .ok (.iastore, 1) := by decide +kernel
theorem q116_49 {dA : Nat → ClassId} {d : Nat} {st : List Value} {f : pz_F} {Q : Option Value → pz_F → Prop} {v0 v1 v2 v3 v4 : Value} {x i : Int32} {a : Nat} : pz_R dA d 116 49 [v0, v1, v2, v3, v4] (.int x :: .int i :: .ref a :: st) f Q = pz_o (pz_is (dA 0) f a i x) (fun f' => pz_R dA d 116 50 [v0, v1, v2, v3, v4] st f' Q) := pz_gis d116_49
theorem d116_50 : decode (pz_b 116) 50 = .ok (.goto 51, 3) := by decide +kernel
theorem q116_50 {dA : Nat → ClassId} {d : Nat} {st : List Value} {f : pz_F} {Q : Option Value → pz_F → Prop} {v0 v1 v2 v3 v4 : Value} : pz_R dA d 116 50 [v0, v1, v2, v3, v4] st f Q = pz_R dA d 116 101 [v0, v1, v2, v3, v4] st f Q := pz_go (pz_so d116_50 rfl)
theorem d116_53 : decode (pz_b 116) 53 = .ok (.aload_n 0, 1) := by decide +kernel
theorem q116_53 {dA : Nat → ClassId} {d : Nat} {st : List Value} {f : pz_F} {Q : Option Value → pz_F → Prop} {v1 v2 v3 v4 : Value} {x : Nat} : pz_R dA d 116 53 [.ref x, v1, v2, v3, v4] st f Q = pz_R dA d 116 54 [.ref x, v1, v2, v3, v4] (.ref x :: st) f Q := pz_go (pz_so d116_53 rfl)
theorem d116_54 : decode (pz_b 116) 54 = .ok (.getfield 13, 3) := by decide +kernel
theorem q116_54 {dA : Nat → ClassId} {d : Nat} {st : List Value} {f : pz_F} {Q : Option Value → pz_F → Prop} {v0 v1 v2 v3 v4 : Value} {a : Nat} : pz_R dA d 116 54 [v0, v1, v2, v3, v4] (.ref a :: st) f Q = pz_o (pz_gf f a 6 2) (fun v => pz_R dA d 116 57 [v0, v1, v2, v3, v4] (v :: st) f Q) := pz_gg d116_54 rfl
theorem d116_57 : decode (pz_b 116) 57 = .ok (.iload_n 1, 1) := by decide +kernel
theorem q116_57 {dA : Nat → ClassId} {d : Nat} {st : List Value} {f : pz_F} {Q : Option Value → pz_F → Prop} {v0 v2 v3 v4 : Value} {x : Int32} : pz_R dA d 116 57 [v0, .int x, v2, v3, v4] st f Q = pz_R dA d 116 58 [v0, .int x, v2, v3, v4] (.int x :: st) f Q := pz_go (pz_so d116_57 rfl)
theorem d116_58 : decode (pz_b 116) 58 = .ok (.iaload, 1) := by decide +kernel
theorem q116_58 {dA : Nat → ClassId} {d : Nat} {st : List Value} {f : pz_F} {Q : Option Value → pz_F → Prop} {v0 v1 v2 v3 v4 : Value} {i : Int32} {a : Nat} : pz_R dA d 116 58 [v0, v1, v2, v3, v4] (.int i :: .ref a :: st) f Q = pz_o (pz_il (dA 0) f a i) (fun x => pz_R dA d 116 59 [v0, v1, v2, v3, v4] (.int x :: st) f Q) := pz_gil d116_58
theorem d116_59 : decode (pz_b 116) 59 = .ok (.iconst 4, 1) := by decide +kernel
theorem q116_59 {dA : Nat → ClassId} {d : Nat} {st : List Value} {f : pz_F} {Q : Option Value → pz_F → Prop} {v0 v1 v2 v3 v4 : Value} : pz_R dA d 116 59 [v0, v1, v2, v3, v4] st f Q = pz_R dA d 116 60 [v0, v1, v2, v3, v4] (.int 4 :: st) f Q := pz_go (pz_so d116_59 rfl)
theorem d116_60 : decode (pz_b 116) 60 = .ok (.if_icmp .ne 41, 3) := by decide +kernel
theorem q116_60 {dA : Nat → ClassId} {d : Nat} {st : List Value} {f : pz_F} {Q : Option Value → pz_F → Prop} {v0 v1 v2 v3 v4 : Value} {x y : Int32} : pz_R dA d 116 60 [v0, v1, v2, v3, v4] (.int y :: .int x :: st) f Q = (if x = y then pz_R dA d 116 63 [v0, v1, v2, v3, v4] st f Q else pz_R dA d 116 101 [v0, v1, v2, v3, v4] st f Q) := pz_gjn .ne d116_60 rfl
theorem d116_63 : decode (pz_b 116) 63 = .ok (.iload_n 2, 1) := by decide +kernel
theorem q116_63 {dA : Nat → ClassId} {d : Nat} {st : List Value} {f : pz_F} {Q : Option Value → pz_F → Prop} {v0 v1 v3 v4 : Value} {x : Int32} : pz_R dA d 116 63 [v0, v1, .int x, v3, v4] st f Q = pz_R dA d 116 64 [v0, v1, .int x, v3, v4] (.int x :: st) f Q := pz_go (pz_so d116_63 rfl)
theorem d116_64 : decode (pz_b 116) 64 = .ok (.ifCond .eq 37, 3) := by decide +kernel
theorem q116_64 {dA : Nat → ClassId} {d : Nat} {st : List Value} {f : pz_F} {Q : Option Value → pz_F → Prop} {v0 v1 v2 v3 v4 : Value} {x : Int32} : pz_R dA d 116 64 [v0, v1, v2, v3, v4] (.int x :: st) f Q = (if x = 0 then pz_R dA d 116 101 [v0, v1, v2, v3, v4] st f Q else pz_R dA d 116 67 [v0, v1, v2, v3, v4] st f Q) := pz_gj1 .eq d116_64 rfl
theorem d116_67 : decode (pz_b 116) 67 = .ok (.aload_n 0, 1) := by decide +kernel
theorem q116_67 {dA : Nat → ClassId} {d : Nat} {st : List Value} {f : pz_F} {Q : Option Value → pz_F → Prop} {v1 v2 v3 v4 : Value} {x : Nat} : pz_R dA d 116 67 [.ref x, v1, v2, v3, v4] st f Q = pz_R dA d 116 68 [.ref x, v1, v2, v3, v4] (.ref x :: st) f Q := pz_go (pz_so d116_67 rfl)
theorem d116_68 : decode (pz_b 116) 68 = .ok (.getfield 26, 3) := by decide +kernel
theorem q116_68 {dA : Nat → ClassId} {d : Nat} {st : List Value} {f : pz_F} {Q : Option Value → pz_F → Prop} {v0 v1 v2 v3 v4 : Value} {a : Nat} : pz_R dA d 116 68 [v0, v1, v2, v3, v4] (.ref a :: st) f Q = pz_o (pz_gf f a 6 6) (fun v => pz_R dA d 116 71 [v0, v1, v2, v3, v4] (v :: st) f Q) := pz_gg d116_68 rfl
theorem d116_71 : decode (pz_b 116) 71 = .ok (.iload_n 1, 1) := by decide +kernel
theorem q116_71 {dA : Nat → ClassId} {d : Nat} {st : List Value} {f : pz_F} {Q : Option Value → pz_F → Prop} {v0 v2 v3 v4 : Value} {x : Int32} : pz_R dA d 116 71 [v0, .int x, v2, v3, v4] st f Q = pz_R dA d 116 72 [v0, .int x, v2, v3, v4] (.int x :: st) f Q := pz_go (pz_so d116_71 rfl)
theorem d116_72 : decode (pz_b 116) 72 = .ok (.iaload, 1) := by decide +kernel
theorem q116_72 {dA : Nat → ClassId} {d : Nat} {st : List Value} {f : pz_F} {Q : Option Value → pz_F → Prop} {v0 v1 v2 v3 v4 : Value} {i : Int32} {a : Nat} : pz_R dA d 116 72 [v0, v1, v2, v3, v4] (.int i :: .ref a :: st) f Q = pz_o (pz_il (dA 0) f a i) (fun x => pz_R dA d 116 73 [v0, v1, v2, v3, v4] (.int x :: st) f Q) := pz_gil d116_72
theorem d116_73 : decode (pz_b 116) 73 = .ok (.bipush 63, 2) := by decide +kernel
theorem q116_73 {dA : Nat → ClassId} {d : Nat} {st : List Value} {f : pz_F} {Q : Option Value → pz_F → Prop} {v0 v1 v2 v3 v4 : Value} : pz_R dA d 116 73 [v0, v1, v2, v3, v4] st f Q = pz_R dA d 116 75 [v0, v1, v2, v3, v4] (.int 63 :: st) f Q := pz_go (pz_so d116_73 rfl)
theorem d116_75 : decode (pz_b 116) 75 = .ok (.if_icmp .ne 26, 3) := by decide +kernel
theorem q116_75 {dA : Nat → ClassId} {d : Nat} {st : List Value} {f : pz_F} {Q : Option Value → pz_F → Prop} {v0 v1 v2 v3 v4 : Value} {x y : Int32} : pz_R dA d 116 75 [v0, v1, v2, v3, v4] (.int y :: .int x :: st) f Q = (if x = y then pz_R dA d 116 78 [v0, v1, v2, v3, v4] st f Q else pz_R dA d 116 101 [v0, v1, v2, v3, v4] st f Q) := pz_gjn .ne d116_75 rfl
theorem d116_78 : decode (pz_b 116) 78 = .ok (.aload_n 0, 1) := by decide +kernel
theorem q116_78 {dA : Nat → ClassId} {d : Nat} {st : List Value} {f : pz_F} {Q : Option Value → pz_F → Prop} {v1 v2 v3 v4 : Value} {x : Nat} : pz_R dA d 116 78 [.ref x, v1, v2, v3, v4] st f Q = pz_R dA d 116 79 [.ref x, v1, v2, v3, v4] (.ref x :: st) f Q := pz_go (pz_so d116_78 rfl)
theorem d116_79 : decode (pz_b 116) 79 = .ok (.getfield 78, 3) := by decide +kernel
theorem q116_79 {dA : Nat → ClassId} {d : Nat} {st : List Value} {f : pz_F} {Q : Option Value → pz_F → Prop} {v0 v1 v2 v3 v4 : Value} {a : Nat} : pz_R dA d 116 79 [v0, v1, v2, v3, v4] (.ref a :: st) f Q = pz_o (pz_gf f a 6 0) (fun v => pz_R dA d 116 82 [v0, v1, v2, v3, v4] (v :: st) f Q) := pz_gg d116_79 rfl
theorem d116_82 : decode (pz_b 116) 82 = .ok (.aload_n 0, 1) := by decide +kernel
theorem q116_82 {dA : Nat → ClassId} {d : Nat} {st : List Value} {f : pz_F} {Q : Option Value → pz_F → Prop} {v1 v2 v3 v4 : Value} {x : Nat} : pz_R dA d 116 82 [.ref x, v1, v2, v3, v4] st f Q = pz_R dA d 116 83 [.ref x, v1, v2, v3, v4] (.ref x :: st) f Q := pz_go (pz_so d116_82 rfl)
theorem d116_83 : decode (pz_b 116) 83 = .ok (.getfield 17, 3) := by decide +kernel
theorem q116_83 {dA : Nat → ClassId} {d : Nat} {st : List Value} {f : pz_F} {Q : Option Value → pz_F → Prop} {v0 v1 v2 v3 v4 : Value} {a : Nat} : pz_R dA d 116 83 [v0, v1, v2, v3, v4] (.ref a :: st) f Q = pz_o (pz_gf f a 6 3) (fun v => pz_R dA d 116 86 [v0, v1, v2, v3, v4] (v :: st) f Q) := pz_gg d116_83 rfl
theorem d116_86 : decode (pz_b 116) 86 = .ok (.iload_n 1, 1) := by decide +kernel
theorem q116_86 {dA : Nat → ClassId} {d : Nat} {st : List Value} {f : pz_F} {Q : Option Value → pz_F → Prop} {v0 v2 v3 v4 : Value} {x : Int32} : pz_R dA d 116 86 [v0, .int x, v2, v3, v4] st f Q = pz_R dA d 116 87 [v0, .int x, v2, v3, v4] (.int x :: st) f Q := pz_go (pz_so d116_86 rfl)
theorem d116_87 : decode (pz_b 116) 87 = .ok (.iaload, 1) := by decide +kernel
theorem q116_87 {dA : Nat → ClassId} {d : Nat} {st : List Value} {f : pz_F} {Q : Option Value → pz_F → Prop} {v0 v1 v2 v3 v4 : Value} {i : Int32} {a : Nat} : pz_R dA d 116 87 [v0, v1, v2, v3, v4] (.int i :: .ref a :: st) f Q = pz_o (pz_il (dA 0) f a i) (fun x => pz_R dA d 116 88 [v0, v1, v2, v3, v4] (.int x :: st) f Q) := pz_gil d116_87
theorem d116_88 : decode (pz_b 116) 88 = .ok (.bipush 6, 2) := by decide +kernel
theorem q116_88 {dA : Nat → ClassId} {d : Nat} {st : List Value} {f : pz_F} {Q : Option Value → pz_F → Prop} {v0 v1 v2 v3 v4 : Value} : pz_R dA d 116 88 [v0, v1, v2, v3, v4] st f Q = pz_R dA d 116 90 [v0, v1, v2, v3, v4] (.int 6 :: st) f Q := pz_go (pz_so d116_88 rfl)
theorem d116_90 : decode (pz_b 116) 90 = .ok (.iadd, 1) := by decide +kernel
theorem q116_90 {dA : Nat → ClassId} {d : Nat} {st : List Value} {f : pz_F} {Q : Option Value → pz_F → Prop} {v0 v1 v2 v3 v4 : Value} {x y : Int32} : pz_R dA d 116 90 [v0, v1, v2, v3, v4] (.int y :: .int x :: st) f Q = pz_R dA d 116 91 [v0, v1, v2, v3, v4] (.int (x + y) :: st) f Q := pz_go (pz_so d116_90 rfl)
theorem d116_91 : decode (pz_b 116) 91 = .ok (.if_icmp .le 10, 3) := by decide +kernel
theorem q116_91 {dA : Nat → ClassId} {d : Nat} {st : List Value} {f : pz_F} {Q : Option Value → pz_F → Prop} {v0 v1 v2 v3 v4 : Value} {x y : Int32} : pz_R dA d 116 91 [v0, v1, v2, v3, v4] (.int y :: .int x :: st) f Q = (if x ≤ y then pz_R dA d 116 101 [v0, v1, v2, v3, v4] st f Q else pz_R dA d 116 94 [v0, v1, v2, v3, v4] st f Q) := pz_gjn .le d116_91 rfl
theorem d116_94 : decode (pz_b 116) 94 = .ok (.aload_n 0, 1) := by decide +kernel
theorem q116_94 {dA : Nat → ClassId} {d : Nat} {st : List Value} {f : pz_F} {Q : Option Value → pz_F → Prop} {v1 v2 v3 v4 : Value} {x : Nat} : pz_R dA d 116 94 [.ref x, v1, v2, v3, v4] st f Q = pz_R dA d 116 95 [.ref x, v1, v2, v3, v4] (.ref x :: st) f Q := pz_go (pz_so d116_94 rfl)
theorem d116_95 : decode (pz_b 116) 95 = .ok (.getfield 13, 3) := by decide +kernel
theorem q116_95 {dA : Nat → ClassId} {d : Nat} {st : List Value} {f : pz_F} {Q : Option Value → pz_F → Prop} {v0 v1 v2 v3 v4 : Value} {a : Nat} : pz_R dA d 116 95 [v0, v1, v2, v3, v4] (.ref a :: st) f Q = pz_o (pz_gf f a 6 2) (fun v => pz_R dA d 116 98 [v0, v1, v2, v3, v4] (v :: st) f Q) := pz_gg d116_95 rfl
theorem d116_98 : decode (pz_b 116) 98 = .ok (.iload_n 1, 1) := by decide +kernel
theorem q116_98 {dA : Nat → ClassId} {d : Nat} {st : List Value} {f : pz_F} {Q : Option Value → pz_F → Prop} {v0 v2 v3 v4 : Value} {x : Int32} : pz_R dA d 116 98 [v0, .int x, v2, v3, v4] st f Q = pz_R dA d 116 99 [v0, .int x, v2, v3, v4] (.int x :: st) f Q := pz_go (pz_so d116_98 rfl)
theorem d116_99 : decode (pz_b 116) 99 = .ok (.iconst 1, 1) := by decide +kernel
theorem q116_99 {dA : Nat → ClassId} {d : Nat} {st : List Value} {f : pz_F} {Q : Option Value → pz_F → Prop} {v0 v1 v2 v3 v4 : Value} : pz_R dA d 116 99 [v0, v1, v2, v3, v4] st f Q = pz_R dA d 116 100 [v0, v1, v2, v3, v4] (.int 1 :: st) f Q := pz_go (pz_so d116_99 rfl)
theorem d116_100 : decode (pz_b 116) 100 = .ok (.iastore, 1) := by decide +kernel
theorem q116_100 {dA : Nat → ClassId} {d : Nat} {st : List Value} {f : pz_F} {Q : Option Value → pz_F → Prop} {v0 v1 v2 v3 v4 : Value} {x i : Int32} {a : Nat} : pz_R dA d 116 100 [v0, v1, v2, v3, v4] (.int x :: .int i :: .ref a :: st) f Q = pz_o (pz_is (dA 0) f a i x) (fun f' => pz_R dA d 116 101 [v0, v1, v2, v3, v4] st f' Q) := pz_gis d116_100
theorem d116_101 : decode (pz_b 116) 101 = .ok (.bipush 6, 2) := by decide +kernel
theorem q116_101 {dA : Nat → ClassId} {d : Nat} {st : List Value} {f : pz_F} {Q : Option Value → pz_F → Prop} {v0 v1 v2 v3 v4 : Value} : pz_R dA d 116 101 [v0, v1, v2, v3, v4] st f Q = pz_R dA d 116 103 [v0, v1, v2, v3, v4] (.int 6 :: st) f Q := pz_go (pz_so d116_101 rfl)
theorem d116_103 : decode (pz_b 116) 103 = .ok (.iload_n 1, 1) := by decide +kernel
theorem q116_103 {dA : Nat → ClassId} {d : Nat} {st : List Value} {f : pz_F} {Q : Option Value → pz_F → Prop} {v0 v2 v3 v4 : Value} {x : Int32} : pz_R dA d 116 103 [v0, .int x, v2, v3, v4] st f Q = pz_R dA d 116 104 [v0, .int x, v2, v3, v4] (.int x :: st) f Q := pz_go (pz_so d116_103 rfl)
theorem d116_104 : decode (pz_b 116) 104 = .ok (.imul, 1) := by decide +kernel
theorem q116_104 {dA : Nat → ClassId} {d : Nat} {st : List Value} {f : pz_F} {Q : Option Value → pz_F → Prop} {v0 v1 v2 v3 v4 : Value} {x y : Int32} : pz_R dA d 116 104 [v0, v1, v2, v3, v4] (.int y :: .int x :: st) f Q = pz_R dA d 116 105 [v0, v1, v2, v3, v4] (.int (x * y) :: st) f Q := pz_go (pz_so d116_104 rfl)
theorem d116_105 : decode (pz_b 116) 105 = .ok (.istore_n 3, 1) := by decide +kernel
theorem q116_105 {dA : Nat → ClassId} {d : Nat} {st : List Value} {f : pz_F} {Q : Option Value → pz_F → Prop} {v0 v1 v2 v3 v4 : Value} {x : Int32} : pz_R dA d 116 105 [v0, v1, v2, v3, v4] (.int x :: st) f Q = pz_R dA d 116 106 [v0, v1, v2, .int x, v4] st f Q := pz_go (pz_so d116_105 rfl)
theorem d116_106 : decode (pz_b 116) 106 = .ok (.iload_n 3, 1) := by decide +kernel
theorem q116_106 {dA : Nat → ClassId} {d : Nat} {st : List Value} {f : pz_F} {Q : Option Value → pz_F → Prop} {v0 v1 v2 v4 : Value} {x : Int32} : pz_R dA d 116 106 [v0, v1, v2, .int x, v4] st f Q = pz_R dA d 116 107 [v0, v1, v2, .int x, v4] (.int x :: st) f Q := pz_go (pz_so d116_106 rfl)
theorem d116_107 : decode (pz_b 116) 107 = .ok (.bipush 6, 2) := by decide +kernel
theorem q116_107 {dA : Nat → ClassId} {d : Nat} {st : List Value} {f : pz_F} {Q : Option Value → pz_F → Prop} {v0 v1 v2 v3 v4 : Value} : pz_R dA d 116 107 [v0, v1, v2, v3, v4] st f Q = pz_R dA d 116 109 [v0, v1, v2, v3, v4] (.int 6 :: st) f Q := pz_go (pz_so d116_107 rfl)
theorem d116_109 : decode (pz_b 116) 109 = .ok (.iload_n 1, 1) := by decide +kernel
theorem q116_109 {dA : Nat → ClassId} {d : Nat} {st : List Value} {f : pz_F} {Q : Option Value → pz_F → Prop} {v0 v2 v3 v4 : Value} {x : Int32} : pz_R dA d 116 109 [v0, .int x, v2, v3, v4] st f Q = pz_R dA d 116 110 [v0, .int x, v2, v3, v4] (.int x :: st) f Q := pz_go (pz_so d116_109 rfl)
theorem d116_110 : decode (pz_b 116) 110 = .ok (.imul, 1) := by decide +kernel
theorem q116_110 {dA : Nat → ClassId} {d : Nat} {st : List Value} {f : pz_F} {Q : Option Value → pz_F → Prop} {v0 v1 v2 v3 v4 : Value} {x y : Int32} : pz_R dA d 116 110 [v0, v1, v2, v3, v4] (.int y :: .int x :: st) f Q = pz_R dA d 116 111 [v0, v1, v2, v3, v4] (.int (x * y) :: st) f Q := pz_go (pz_so d116_110 rfl)
theorem d116_111 : decode (pz_b 116) 111 = .ok (.bipush 6, 2) := by decide +kernel
theorem q116_111 {dA : Nat → ClassId} {d : Nat} {st : List Value} {f : pz_F} {Q : Option Value → pz_F → Prop} {v0 v1 v2 v3 v4 : Value} : pz_R dA d 116 111 [v0, v1, v2, v3, v4] st f Q = pz_R dA d 116 113 [v0, v1, v2, v3, v4] (.int 6 :: st) f Q := pz_go (pz_so d116_111 rfl)
theorem d116_113 : decode (pz_b 116) 113 = .ok (.iadd, 1) := by decide +kernel
theorem q116_113 {dA : Nat → ClassId} {d : Nat} {st : List Value} {f : pz_F} {Q : Option Value → pz_F → Prop} {v0 v1 v2 v3 v4 : Value} {x y : Int32} : pz_R dA d 116 113 [v0, v1, v2, v3, v4] (.int y :: .int x :: st) f Q = pz_R dA d 116 114 [v0, v1, v2, v3, v4] (.int (x + y) :: st) f Q := pz_go (pz_so d116_113 rfl)
theorem d116_114 : decode (pz_b 116) 114 = .ok (.if_icmp .ge 45, 3) := by decide +kernel
theorem q116_114 {dA : Nat → ClassId} {d : Nat} {st : List Value} {f : pz_F} {Q : Option Value → pz_F → Prop} {v0 v1 v2 v3 v4 : Value} {x y : Int32} : pz_R dA d 116 114 [v0, v1, v2, v3, v4] (.int y :: .int x :: st) f Q = (if y ≤ x then pz_R dA d 116 159 [v0, v1, v2, v3, v4] st f Q else pz_R dA d 116 117 [v0, v1, v2, v3, v4] st f Q) := pz_gjn .ge d116_114 rfl
theorem d116_117 : decode (pz_b 116) 117 = .ok (.aload_n 0, 1) := by decide +kernel
theorem q116_117 {dA : Nat → ClassId} {d : Nat} {st : List Value} {f : pz_F} {Q : Option Value → pz_F → Prop} {v1 v2 v3 v4 : Value} {x : Nat} : pz_R dA d 116 117 [.ref x, v1, v2, v3, v4] st f Q = pz_R dA d 116 118 [.ref x, v1, v2, v3, v4] (.ref x :: st) f Q := pz_go (pz_so d116_117 rfl)
theorem d116_118 : decode (pz_b 116) 118 = .ok (.iload_n 1, 1) := by decide +kernel
theorem q116_118 {dA : Nat → ClassId} {d : Nat} {st : List Value} {f : pz_F} {Q : Option Value → pz_F → Prop} {v0 v2 v3 v4 : Value} {x : Int32} : pz_R dA d 116 118 [v0, .int x, v2, v3, v4] st f Q = pz_R dA d 116 119 [v0, .int x, v2, v3, v4] (.int x :: st) f Q := pz_go (pz_so d116_118 rfl)
theorem d116_119 : decode (pz_b 116) 119 = .ok (.invokevirtual 140, 3) := by decide +kernel
theorem q116_119 {dA : Nat → ClassId} {d : Nat} {st : List Value} {f : pz_F} {Q : Option Value → pz_F → Prop} {v0 v1 v2 v3 v4 : Value} {c0 : Int32} {b : Nat} (hr : st.length ≤ 4) : pz_R dA (d + 1) 116 119 [v0, v1, v2, v3, v4] (.int c0 :: .ref b :: st) f Q = pz_o (pz_gu f b 6) (fun _ => pz_C dA d 89 [.ref b, .int c0] f (fun r f' => pz_R dA (d + 1) 116 122 [v0, v1, v2, v3, v4] (r.toList ++ st) f' Q)) := pz_gcv (As := [.int c0]) d116_119 rfl rfl rfl hr
theorem d116_122 : decode (pz_b 116) 122 = .ok (.ifCond .eq 37, 3) := by decide +kernel
theorem q116_122 {dA : Nat → ClassId} {d : Nat} {st : List Value} {f : pz_F} {Q : Option Value → pz_F → Prop} {v0 v1 v2 v3 v4 : Value} {x : Int32} : pz_R dA d 116 122 [v0, v1, v2, v3, v4] (.int x :: st) f Q = (if x = 0 then pz_R dA d 116 159 [v0, v1, v2, v3, v4] st f Q else pz_R dA d 116 125 [v0, v1, v2, v3, v4] st f Q) := pz_gj1 .eq d116_122 rfl
theorem d116_125 : decode (pz_b 116) 125 = .ok (.aload_n 0, 1) := by decide +kernel
theorem q116_125 {dA : Nat → ClassId} {d : Nat} {st : List Value} {f : pz_F} {Q : Option Value → pz_F → Prop} {v1 v2 v3 v4 : Value} {x : Nat} : pz_R dA d 116 125 [.ref x, v1, v2, v3, v4] st f Q = pz_R dA d 116 126 [.ref x, v1, v2, v3, v4] (.ref x :: st) f Q := pz_go (pz_so d116_125 rfl)
theorem d116_126 : decode (pz_b 116) 126 = .ok (.getfield 29, 3) := by decide +kernel
theorem q116_126 {dA : Nat → ClassId} {d : Nat} {st : List Value} {f : pz_F} {Q : Option Value → pz_F → Prop} {v0 v1 v2 v3 v4 : Value} {a : Nat} : pz_R dA d 116 126 [v0, v1, v2, v3, v4] (.ref a :: st) f Q = pz_o (pz_gf f a 6 7) (fun v => pz_R dA d 116 129 [v0, v1, v2, v3, v4] (v :: st) f Q) := pz_gg d116_126 rfl
theorem d116_129 : decode (pz_b 116) 129 = .ok (.iload_n 3, 1) := by decide +kernel
theorem q116_129 {dA : Nat → ClassId} {d : Nat} {st : List Value} {f : pz_F} {Q : Option Value → pz_F → Prop} {v0 v1 v2 v4 : Value} {x : Int32} : pz_R dA d 116 129 [v0, v1, v2, .int x, v4] st f Q = pz_R dA d 116 130 [v0, v1, v2, .int x, v4] (.int x :: st) f Q := pz_go (pz_so d116_129 rfl)
theorem d116_130 : decode (pz_b 116) 130 = .ok (.iaload, 1) := by decide +kernel
theorem q116_130 {dA : Nat → ClassId} {d : Nat} {st : List Value} {f : pz_F} {Q : Option Value → pz_F → Prop} {v0 v1 v2 v3 v4 : Value} {i : Int32} {a : Nat} : pz_R dA d 116 130 [v0, v1, v2, v3, v4] (.int i :: .ref a :: st) f Q = pz_o (pz_il (dA 0) f a i) (fun x => pz_R dA d 116 131 [v0, v1, v2, v3, v4] (.int x :: st) f Q) := pz_gil d116_130
theorem d116_131 : decode (pz_b 116) 131 = .ok (.iconst 1, 1) := by decide +kernel
theorem q116_131 {dA : Nat → ClassId} {d : Nat} {st : List Value} {f : pz_F} {Q : Option Value → pz_F → Prop} {v0 v1 v2 v3 v4 : Value} : pz_R dA d 116 131 [v0, v1, v2, v3, v4] st f Q = pz_R dA d 116 132 [v0, v1, v2, v3, v4] (.int 1 :: st) f Q := pz_go (pz_so d116_131 rfl)
theorem d116_132 : decode (pz_b 116) 132 = .ok (.if_icmp .ne 21, 3) := by decide +kernel
theorem q116_132 {dA : Nat → ClassId} {d : Nat} {st : List Value} {f : pz_F} {Q : Option Value → pz_F → Prop} {v0 v1 v2 v3 v4 : Value} {x y : Int32} : pz_R dA d 116 132 [v0, v1, v2, v3, v4] (.int y :: .int x :: st) f Q = (if x = y then pz_R dA d 116 135 [v0, v1, v2, v3, v4] st f Q else pz_R dA d 116 153 [v0, v1, v2, v3, v4] st f Q) := pz_gjn .ne d116_132 rfl
theorem d116_135 : decode (pz_b 116) 135 = .ok (.aload_n 0, 1) := by decide +kernel
theorem q116_135 {dA : Nat → ClassId} {d : Nat} {st : List Value} {f : pz_F} {Q : Option Value → pz_F → Prop} {v1 v2 v3 v4 : Value} {x : Nat} : pz_R dA d 116 135 [.ref x, v1, v2, v3, v4] st f Q = pz_R dA d 116 136 [.ref x, v1, v2, v3, v4] (.ref x :: st) f Q := pz_go (pz_so d116_135 rfl)
theorem d116_136 : decode (pz_b 116) 136 = .ok (.getfield 35, 3) := by decide +kernel
theorem q116_136 {dA : Nat → ClassId} {d : Nat} {st : List Value} {f : pz_F} {Q : Option Value → pz_F → Prop} {v0 v1 v2 v3 v4 : Value} {a : Nat} : pz_R dA d 116 136 [v0, v1, v2, v3, v4] (.ref a :: st) f Q = pz_o (pz_gf f a 6 9) (fun v => pz_R dA d 116 139 [v0, v1, v2, v3, v4] (v :: st) f Q) := pz_gg d116_136 rfl
theorem d116_139 : decode (pz_b 116) 139 = .ok (.iload_n 3, 1) := by decide +kernel
theorem q116_139 {dA : Nat → ClassId} {d : Nat} {st : List Value} {f : pz_F} {Q : Option Value → pz_F → Prop} {v0 v1 v2 v4 : Value} {x : Int32} : pz_R dA d 116 139 [v0, v1, v2, .int x, v4] st f Q = pz_R dA d 116 140 [v0, v1, v2, .int x, v4] (.int x :: st) f Q := pz_go (pz_so d116_139 rfl)
theorem d116_140 : decode (pz_b 116) 140 = .ok (.iaload, 1) := by decide +kernel
theorem q116_140 {dA : Nat → ClassId} {d : Nat} {st : List Value} {f : pz_F} {Q : Option Value → pz_F → Prop} {v0 v1 v2 v3 v4 : Value} {i : Int32} {a : Nat} : pz_R dA d 116 140 [v0, v1, v2, v3, v4] (.int i :: .ref a :: st) f Q = pz_o (pz_il (dA 0) f a i) (fun x => pz_R dA d 116 141 [v0, v1, v2, v3, v4] (.int x :: st) f Q) := pz_gil d116_140
theorem d116_141 : decode (pz_b 116) 141 = .ok (.aload_n 0, 1) := by decide +kernel
theorem q116_141 {dA : Nat → ClassId} {d : Nat} {st : List Value} {f : pz_F} {Q : Option Value → pz_F → Prop} {v1 v2 v3 v4 : Value} {x : Nat} : pz_R dA d 116 141 [.ref x, v1, v2, v3, v4] st f Q = pz_R dA d 116 142 [.ref x, v1, v2, v3, v4] (.ref x :: st) f Q := pz_go (pz_so d116_141 rfl)
theorem d116_142 : decode (pz_b 116) 142 = .ok (.getfield 78, 3) := by decide +kernel
theorem q116_142 {dA : Nat → ClassId} {d : Nat} {st : List Value} {f : pz_F} {Q : Option Value → pz_F → Prop} {v0 v1 v2 v3 v4 : Value} {a : Nat} : pz_R dA d 116 142 [v0, v1, v2, v3, v4] (.ref a :: st) f Q = pz_o (pz_gf f a 6 0) (fun v => pz_R dA d 116 145 [v0, v1, v2, v3, v4] (v :: st) f Q) := pz_gg d116_142 rfl
theorem d116_145 : decode (pz_b 116) 145 = .ok (.if_icmp .ge 8, 3) := by decide +kernel
theorem q116_145 {dA : Nat → ClassId} {d : Nat} {st : List Value} {f : pz_F} {Q : Option Value → pz_F → Prop} {v0 v1 v2 v3 v4 : Value} {x y : Int32} : pz_R dA d 116 145 [v0, v1, v2, v3, v4] (.int y :: .int x :: st) f Q = (if y ≤ x then pz_R dA d 116 153 [v0, v1, v2, v3, v4] st f Q else pz_R dA d 116 148 [v0, v1, v2, v3, v4] st f Q) := pz_gjn .ge d116_145 rfl
theorem d116_148 : decode (pz_b 116) 148 = .ok (.aload_n 0, 1) := by decide +kernel
theorem q116_148 {dA : Nat → ClassId} {d : Nat} {st : List Value} {f : pz_F} {Q : Option Value → pz_F → Prop} {v1 v2 v3 v4 : Value} {x : Nat} : pz_R dA d 116 148 [.ref x, v1, v2, v3, v4] st f Q = pz_R dA d 116 149 [.ref x, v1, v2, v3, v4] (.ref x :: st) f Q := pz_go (pz_so d116_148 rfl)
theorem d116_149 : decode (pz_b 116) 149 = .ok (.iload_n 3, 1) := by decide +kernel
theorem q116_149 {dA : Nat → ClassId} {d : Nat} {st : List Value} {f : pz_F} {Q : Option Value → pz_F → Prop} {v0 v1 v2 v4 : Value} {x : Int32} : pz_R dA d 116 149 [v0, v1, v2, .int x, v4] st f Q = pz_R dA d 116 150 [v0, v1, v2, .int x, v4] (.int x :: st) f Q := pz_go (pz_so d116_149 rfl)
theorem d116_150 : decode (pz_b 116) 150 = .ok (.invokevirtual 147, 3) := by decide +kernel
theorem q116_150 {dA : Nat → ClassId} {d : Nat} {st : List Value} {f : pz_F} {Q : Option Value → pz_F → Prop} {v0 v1 v2 v3 v4 : Value} {c0 : Int32} {b : Nat} (hr : st.length ≤ 4) : pz_R dA (d + 1) 116 150 [v0, v1, v2, v3, v4] (.int c0 :: .ref b :: st) f Q = pz_o (pz_gu f b 6) (fun _ => pz_C dA d 104 [.ref b, .int c0] f (fun r f' => pz_R dA (d + 1) 116 153 [v0, v1, v2, v3, v4] (r.toList ++ st) f' Q)) := pz_gcv (As := [.int c0]) d116_150 rfl rfl rfl hr
theorem d116_153 : decode (pz_b 116) 153 = .ok (.iinc 3 1, 3) := by decide +kernel
theorem q116_153 {dA : Nat → ClassId} {d : Nat} {st : List Value} {f : pz_F} {Q : Option Value → pz_F → Prop} {v0 v1 v2 v4 : Value} {x : Int32} : pz_R dA d 116 153 [v0, v1, v2, .int x, v4] st f Q = pz_R dA d 116 156 [v0, v1, v2, .int (x + 1), v4] st f Q := pz_go (pz_so d116_153 rfl)
theorem d116_156 : decode (pz_b 116) 156 = .ok (.goto (-50), 3) := by decide +kernel
theorem q116_156 {dA : Nat → ClassId} {d : Nat} {st : List Value} {f : pz_F} {Q : Option Value → pz_F → Prop} {v0 v1 v2 v3 v4 : Value} : pz_R dA d 116 156 [v0, v1, v2, v3, v4] st f Q = pz_R dA d 116 106 [v0, v1, v2, v3, v4] st f Q := pz_go (pz_so d116_156 rfl)
theorem d116_159 : decode (pz_b 116) 159 = .ok (.iload_n 2, 1) := by decide +kernel
theorem q116_159 {dA : Nat → ClassId} {d : Nat} {st : List Value} {f : pz_F} {Q : Option Value → pz_F → Prop} {v0 v1 v3 v4 : Value} {x : Int32} : pz_R dA d 116 159 [v0, v1, .int x, v3, v4] st f Q = pz_R dA d 116 160 [v0, v1, .int x, v3, v4] (.int x :: st) f Q := pz_go (pz_so d116_159 rfl)
theorem d116_160 : decode (pz_b 116) 160 = .ok (.ifCond .ne 4, 3) := by decide +kernel
theorem q116_160 {dA : Nat → ClassId} {d : Nat} {st : List Value} {f : pz_F} {Q : Option Value → pz_F → Prop} {v0 v1 v2 v3 v4 : Value} {x : Int32} : pz_R dA d 116 160 [v0, v1, v2, v3, v4] (.int x :: st) f Q = (if x = 0 then pz_R dA d 116 163 [v0, v1, v2, v3, v4] st f Q else pz_R dA d 116 164 [v0, v1, v2, v3, v4] st f Q) := pz_gj1 .ne d116_160 rfl
theorem d116_163 : decode (pz_b 116) 163 = .ok (.return_, 1) := by decide +kernel
theorem q116_163 {dA : Nat → ClassId} {d : Nat} {f : pz_F} {Q : Option Value → pz_F → Prop} {v0 v1 v2 v3 v4 : Value} : pz_R dA d 116 163 [v0, v1, v2, v3, v4] [] f Q = Q none f := pz_gr (pz_so d116_163 rfl)
theorem d116_164 : decode (pz_b 116) 164 = .ok (.iconst 0, 1) := by decide +kernel
theorem q116_164 {dA : Nat → ClassId} {d : Nat} {st : List Value} {f : pz_F} {Q : Option Value → pz_F → Prop} {v0 v1 v2 v3 v4 : Value} : pz_R dA d 116 164 [v0, v1, v2, v3, v4] st f Q = pz_R dA d 116 165 [v0, v1, v2, v3, v4] (.int 0 :: st) f Q := pz_go (pz_so d116_164 rfl)
theorem d116_165 : decode (pz_b 116) 165 = .ok (.istore_n 3, 1) := by decide +kernel
theorem q116_165 {dA : Nat → ClassId} {d : Nat} {st : List Value} {f : pz_F} {Q : Option Value → pz_F → Prop} {v0 v1 v2 v3 v4 : Value} {x : Int32} : pz_R dA d 116 165 [v0, v1, v2, v3, v4] (.int x :: st) f Q = pz_R dA d 116 166 [v0, v1, v2, .int x, v4] st f Q := pz_go (pz_so d116_165 rfl)
theorem d116_166 : decode (pz_b 116) 166 = .ok (.iconst 0, 1) := by decide +kernel
theorem q116_166 {dA : Nat → ClassId} {d : Nat} {st : List Value} {f : pz_F} {Q : Option Value → pz_F → Prop} {v0 v1 v2 v3 v4 : Value} : pz_R dA d 116 166 [v0, v1, v2, v3, v4] st f Q = pz_R dA d 116 167 [v0, v1, v2, v3, v4] (.int 0 :: st) f Q := pz_go (pz_so d116_166 rfl)
theorem d116_167 : decode (pz_b 116) 167 = .ok (.istore 4, 2) := by decide +kernel
theorem q116_167 {dA : Nat → ClassId} {d : Nat} {st : List Value} {f : pz_F} {Q : Option Value → pz_F → Prop} {v0 v1 v2 v3 v4 : Value} {x : Int32} : pz_R dA d 116 167 [v0, v1, v2, v3, v4] (.int x :: st) f Q = pz_R dA d 116 169 [v0, v1, v2, v3, .int x] st f Q := pz_go (pz_so d116_167 rfl)
theorem d116_169 : decode (pz_b 116) 169 = .ok (.iload 4, 2) := by decide +kernel
theorem q116_169 {dA : Nat → ClassId} {d : Nat} {st : List Value} {f : pz_F} {Q : Option Value → pz_F → Prop} {v0 v1 v2 v3 : Value} {x : Int32} : pz_R dA d 116 169 [v0, v1, v2, v3, .int x] st f Q = pz_R dA d 116 171 [v0, v1, v2, v3, .int x] (.int x :: st) f Q := pz_go (pz_so d116_169 rfl)
theorem d116_171 : decode (pz_b 116) 171 = .ok (.bipush 6, 2) := by decide +kernel
theorem q116_171 {dA : Nat → ClassId} {d : Nat} {st : List Value} {f : pz_F} {Q : Option Value → pz_F → Prop} {v0 v1 v2 v3 v4 : Value} : pz_R dA d 116 171 [v0, v1, v2, v3, v4] st f Q = pz_R dA d 116 173 [v0, v1, v2, v3, v4] (.int 6 :: st) f Q := pz_go (pz_so d116_171 rfl)
theorem d116_173 : decode (pz_b 116) 173 = .ok (.if_icmp .ge 49, 3) := by decide +kernel
theorem q116_173 {dA : Nat → ClassId} {d : Nat} {st : List Value} {f : pz_F} {Q : Option Value → pz_F → Prop} {v0 v1 v2 v3 v4 : Value} {x y : Int32} : pz_R dA d 116 173 [v0, v1, v2, v3, v4] (.int y :: .int x :: st) f Q = (if y ≤ x then pz_R dA d 116 222 [v0, v1, v2, v3, v4] st f Q else pz_R dA d 116 176 [v0, v1, v2, v3, v4] st f Q) := pz_gjn .ge d116_173 rfl
theorem d116_176 : decode (pz_b 116) 176 = .ok (.aload_n 0, 1) := by decide +kernel
theorem q116_176 {dA : Nat → ClassId} {d : Nat} {st : List Value} {f : pz_F} {Q : Option Value → pz_F → Prop} {v1 v2 v3 v4 : Value} {x : Nat} : pz_R dA d 116 176 [.ref x, v1, v2, v3, v4] st f Q = pz_R dA d 116 177 [.ref x, v1, v2, v3, v4] (.ref x :: st) f Q := pz_go (pz_so d116_176 rfl)
theorem d116_177 : decode (pz_b 116) 177 = .ok (.getfield 13, 3) := by decide +kernel
theorem q116_177 {dA : Nat → ClassId} {d : Nat} {st : List Value} {f : pz_F} {Q : Option Value → pz_F → Prop} {v0 v1 v2 v3 v4 : Value} {a : Nat} : pz_R dA d 116 177 [v0, v1, v2, v3, v4] (.ref a :: st) f Q = pz_o (pz_gf f a 6 2) (fun v => pz_R dA d 116 180 [v0, v1, v2, v3, v4] (v :: st) f Q) := pz_gg d116_177 rfl
theorem d116_180 : decode (pz_b 116) 180 = .ok (.iload_n 1, 1) := by decide +kernel
theorem q116_180 {dA : Nat → ClassId} {d : Nat} {st : List Value} {f : pz_F} {Q : Option Value → pz_F → Prop} {v0 v2 v3 v4 : Value} {x : Int32} : pz_R dA d 116 180 [v0, .int x, v2, v3, v4] st f Q = pz_R dA d 116 181 [v0, .int x, v2, v3, v4] (.int x :: st) f Q := pz_go (pz_so d116_180 rfl)
theorem d116_181 : decode (pz_b 116) 181 = .ok (.iaload, 1) := by decide +kernel
theorem q116_181 {dA : Nat → ClassId} {d : Nat} {st : List Value} {f : pz_F} {Q : Option Value → pz_F → Prop} {v0 v1 v2 v3 v4 : Value} {i : Int32} {a : Nat} : pz_R dA d 116 181 [v0, v1, v2, v3, v4] (.int i :: .ref a :: st) f Q = pz_o (pz_il (dA 0) f a i) (fun x => pz_R dA d 116 182 [v0, v1, v2, v3, v4] (.int x :: st) f Q) := pz_gil d116_181
theorem d116_182 : decode (pz_b 116) 182 = .ok (.iconst 1, 1) := by decide +kernel
theorem q116_182 {dA : Nat → ClassId} {d : Nat} {st : List Value} {f : pz_F} {Q : Option Value → pz_F → Prop} {v0 v1 v2 v3 v4 : Value} : pz_R dA d 116 182 [v0, v1, v2, v3, v4] st f Q = pz_R dA d 116 183 [v0, v1, v2, v3, v4] (.int 1 :: st) f Q := pz_go (pz_so d116_182 rfl)
theorem d116_183 : decode (pz_b 116) 183 = .ok (.if_icmp .ne 39, 3) := by decide +kernel
theorem q116_183 {dA : Nat → ClassId} {d : Nat} {st : List Value} {f : pz_F} {Q : Option Value → pz_F → Prop} {v0 v1 v2 v3 v4 : Value} {x y : Int32} : pz_R dA d 116 183 [v0, v1, v2, v3, v4] (.int y :: .int x :: st) f Q = (if x = y then pz_R dA d 116 186 [v0, v1, v2, v3, v4] st f Q else pz_R dA d 116 222 [v0, v1, v2, v3, v4] st f Q) := pz_gjn .ne d116_183 rfl
theorem d116_186 : decode (pz_b 116) 186 = .ok (.iload_n 3, 1) := by decide +kernel
theorem q116_186 {dA : Nat → ClassId} {d : Nat} {st : List Value} {f : pz_F} {Q : Option Value → pz_F → Prop} {v0 v1 v2 v4 : Value} {x : Int32} : pz_R dA d 116 186 [v0, v1, v2, .int x, v4] st f Q = pz_R dA d 116 187 [v0, v1, v2, .int x, v4] (.int x :: st) f Q := pz_go (pz_so d116_186 rfl)
theorem d116_187 : decode (pz_b 116) 187 = .ok (.iconst 2, 1) := by decide +kernel
theorem q116_187 {dA : Nat → ClassId} {d : Nat} {st : List Value} {f : pz_F} {Q : Option Value → pz_F → Prop} {v0 v1 v2 v3 v4 : Value} : pz_R dA d 116 187 [v0, v1, v2, v3, v4] st f Q = pz_R dA d 116 188 [v0, v1, v2, v3, v4] (.int 2 :: st) f Q := pz_go (pz_so d116_187 rfl)
theorem d116_188 : decode (pz_b 116) 188 = .ok (.if_icmp .ge 34, 3) := by decide +kernel
theorem q116_188 {dA : Nat → ClassId} {d : Nat} {st : List Value} {f : pz_F} {Q : Option Value → pz_F → Prop} {v0 v1 v2 v3 v4 : Value} {x y : Int32} : pz_R dA d 116 188 [v0, v1, v2, v3, v4] (.int y :: .int x :: st) f Q = (if y ≤ x then pz_R dA d 116 222 [v0, v1, v2, v3, v4] st f Q else pz_R dA d 116 191 [v0, v1, v2, v3, v4] st f Q) := pz_gjn .ge d116_188 rfl
theorem d116_191 : decode (pz_b 116) 191 = .ok (.aload_n 0, 1) := by decide +kernel
theorem q116_191 {dA : Nat → ClassId} {d : Nat} {st : List Value} {f : pz_F} {Q : Option Value → pz_F → Prop} {v1 v2 v3 v4 : Value} {x : Nat} : pz_R dA d 116 191 [.ref x, v1, v2, v3, v4] st f Q = pz_R dA d 116 192 [.ref x, v1, v2, v3, v4] (.ref x :: st) f Q := pz_go (pz_so d116_191 rfl)
theorem d116_192 : decode (pz_b 116) 192 = .ok (.getfield 50, 3) := by decide +kernel
theorem q116_192 {dA : Nat → ClassId} {d : Nat} {st : List Value} {f : pz_F} {Q : Option Value → pz_F → Prop} {v0 v1 v2 v3 v4 : Value} {a : Nat} : pz_R dA d 116 192 [v0, v1, v2, v3, v4] (.ref a :: st) f Q = pz_o (pz_gf f a 6 14) (fun v => pz_R dA d 116 195 [v0, v1, v2, v3, v4] (v :: st) f Q) := pz_gg d116_192 rfl
theorem d116_195 : decode (pz_b 116) 195 = .ok (.bipush 6, 2) := by decide +kernel
theorem q116_195 {dA : Nat → ClassId} {d : Nat} {st : List Value} {f : pz_F} {Q : Option Value → pz_F → Prop} {v0 v1 v2 v3 v4 : Value} : pz_R dA d 116 195 [v0, v1, v2, v3, v4] st f Q = pz_R dA d 116 197 [v0, v1, v2, v3, v4] (.int 6 :: st) f Q := pz_go (pz_so d116_195 rfl)
theorem d116_197 : decode (pz_b 116) 197 = .ok (.iload_n 1, 1) := by decide +kernel
theorem q116_197 {dA : Nat → ClassId} {d : Nat} {st : List Value} {f : pz_F} {Q : Option Value → pz_F → Prop} {v0 v2 v3 v4 : Value} {x : Int32} : pz_R dA d 116 197 [v0, .int x, v2, v3, v4] st f Q = pz_R dA d 116 198 [v0, .int x, v2, v3, v4] (.int x :: st) f Q := pz_go (pz_so d116_197 rfl)
theorem d116_198 : decode (pz_b 116) 198 = .ok (.imul, 1) := by decide +kernel
theorem q116_198 {dA : Nat → ClassId} {d : Nat} {st : List Value} {f : pz_F} {Q : Option Value → pz_F → Prop} {v0 v1 v2 v3 v4 : Value} {x y : Int32} : pz_R dA d 116 198 [v0, v1, v2, v3, v4] (.int y :: .int x :: st) f Q = pz_R dA d 116 199 [v0, v1, v2, v3, v4] (.int (x * y) :: st) f Q := pz_go (pz_so d116_198 rfl)
theorem d116_199 : decode (pz_b 116) 199 = .ok (.iload 4, 2) := by decide +kernel
theorem q116_199 {dA : Nat → ClassId} {d : Nat} {st : List Value} {f : pz_F} {Q : Option Value → pz_F → Prop} {v0 v1 v2 v3 : Value} {x : Int32} : pz_R dA d 116 199 [v0, v1, v2, v3, .int x] st f Q = pz_R dA d 116 201 [v0, v1, v2, v3, .int x] (.int x :: st) f Q := pz_go (pz_so d116_199 rfl)
theorem d116_201 : decode (pz_b 116) 201 = .ok (.iadd, 1) := by decide +kernel
theorem q116_201 {dA : Nat → ClassId} {d : Nat} {st : List Value} {f : pz_F} {Q : Option Value → pz_F → Prop} {v0 v1 v2 v3 v4 : Value} {x y : Int32} : pz_R dA d 116 201 [v0, v1, v2, v3, v4] (.int y :: .int x :: st) f Q = pz_R dA d 116 202 [v0, v1, v2, v3, v4] (.int (x + y) :: st) f Q := pz_go (pz_so d116_201 rfl)
theorem d116_202 : decode (pz_b 116) 202 = .ok (.baload, 1) := by decide +kernel
theorem q116_202 {dA : Nat → ClassId} {d : Nat} {st : List Value} {f : pz_F} {Q : Option Value → pz_F → Prop} {v0 v1 v2 v3 v4 : Value} {i : Int32} {a : Nat} : pz_R dA d 116 202 [v0, v1, v2, v3, v4] (.int i :: .ref a :: st) f Q = pz_o (pz_il (dA 1) f a i) (fun x => pz_R dA d 116 203 [v0, v1, v2, v3, v4] (.int x :: st) f Q) := pz_gzl d116_202
theorem d116_203 : decode (pz_b 116) 203 = .ok (.ifCond .eq 13, 3) := by decide +kernel
theorem q116_203 {dA : Nat → ClassId} {d : Nat} {st : List Value} {f : pz_F} {Q : Option Value → pz_F → Prop} {v0 v1 v2 v3 v4 : Value} {x : Int32} : pz_R dA d 116 203 [v0, v1, v2, v3, v4] (.int x :: st) f Q = (if x = 0 then pz_R dA d 116 216 [v0, v1, v2, v3, v4] st f Q else pz_R dA d 116 206 [v0, v1, v2, v3, v4] st f Q) := pz_gj1 .eq d116_203 rfl
theorem d116_206 : decode (pz_b 116) 206 = .ok (.aload_n 0, 1) := by decide +kernel
theorem q116_206 {dA : Nat → ClassId} {d : Nat} {st : List Value} {f : pz_F} {Q : Option Value → pz_F → Prop} {v1 v2 v3 v4 : Value} {x : Nat} : pz_R dA d 116 206 [.ref x, v1, v2, v3, v4] st f Q = pz_R dA d 116 207 [.ref x, v1, v2, v3, v4] (.ref x :: st) f Q := pz_go (pz_so d116_206 rfl)
theorem d116_207 : decode (pz_b 116) 207 = .ok (.iload_n 1, 1) := by decide +kernel
theorem q116_207 {dA : Nat → ClassId} {d : Nat} {st : List Value} {f : pz_F} {Q : Option Value → pz_F → Prop} {v0 v2 v3 v4 : Value} {x : Int32} : pz_R dA d 116 207 [v0, .int x, v2, v3, v4] st f Q = pz_R dA d 116 208 [v0, .int x, v2, v3, v4] (.int x :: st) f Q := pz_go (pz_so d116_207 rfl)
theorem d116_208 : decode (pz_b 116) 208 = .ok (.iload 4, 2) := by decide +kernel
theorem q116_208 {dA : Nat → ClassId} {d : Nat} {st : List Value} {f : pz_F} {Q : Option Value → pz_F → Prop} {v0 v1 v2 v3 : Value} {x : Int32} : pz_R dA d 116 208 [v0, v1, v2, v3, .int x] st f Q = pz_R dA d 116 210 [v0, v1, v2, v3, .int x] (.int x :: st) f Q := pz_go (pz_so d116_208 rfl)
theorem d116_210 : decode (pz_b 116) 210 = .ok (.invokevirtual 166, 3) := by decide +kernel
theorem q116_210 {dA : Nat → ClassId} {d : Nat} {st : List Value} {f : pz_F} {Q : Option Value → pz_F → Prop} {v0 v1 v2 v3 v4 : Value} {c0 : Int32} {c1 : Int32} {b : Nat} (hr : st.length ≤ 4) : pz_R dA (d + 1) 116 210 [v0, v1, v2, v3, v4] (.int c1 :: .int c0 :: .ref b :: st) f Q = pz_o (pz_gu f b 6) (fun _ => pz_C dA d 105 [.ref b, .int c0, .int c1] f (fun r f' => pz_R dA (d + 1) 116 213 [v0, v1, v2, v3, v4] (r.toList ++ st) f' Q)) := pz_gcv (As := [.int c0, .int c1]) d116_210 rfl rfl rfl hr
theorem d116_213 : decode (pz_b 116) 213 = .ok (.iinc 3 1, 3) := by decide +kernel
theorem q116_213 {dA : Nat → ClassId} {d : Nat} {st : List Value} {f : pz_F} {Q : Option Value → pz_F → Prop} {v0 v1 v2 v4 : Value} {x : Int32} : pz_R dA d 116 213 [v0, v1, v2, .int x, v4] st f Q = pz_R dA d 116 216 [v0, v1, v2, .int (x + 1), v4] st f Q := pz_go (pz_so d116_213 rfl)
theorem d116_216 : decode (pz_b 116) 216 = .ok (.iinc 4 1, 3) := by decide +kernel
theorem q116_216 {dA : Nat → ClassId} {d : Nat} {st : List Value} {f : pz_F} {Q : Option Value → pz_F → Prop} {v0 v1 v2 v3 : Value} {x : Int32} : pz_R dA d 116 216 [v0, v1, v2, v3, .int x] st f Q = pz_R dA d 116 219 [v0, v1, v2, v3, .int (x + 1)] st f Q := pz_go (pz_so d116_216 rfl)
theorem d116_219 : decode (pz_b 116) 219 = .ok (.goto (-50), 3) := by decide +kernel
theorem q116_219 {dA : Nat → ClassId} {d : Nat} {st : List Value} {f : pz_F} {Q : Option Value → pz_F → Prop} {v0 v1 v2 v3 v4 : Value} : pz_R dA d 116 219 [v0, v1, v2, v3, v4] st f Q = pz_R dA d 116 169 [v0, v1, v2, v3, v4] st f Q := pz_go (pz_so d116_219 rfl)
theorem d116_222 : decode (pz_b 116) 222 = .ok (.aload_n 0, 1) := by decide +kernel
theorem q116_222 {dA : Nat → ClassId} {d : Nat} {st : List Value} {f : pz_F} {Q : Option Value → pz_F → Prop} {v1 v2 v3 v4 : Value} {x : Nat} : pz_R dA d 116 222 [.ref x, v1, v2, v3, v4] st f Q = pz_R dA d 116 223 [.ref x, v1, v2, v3, v4] (.ref x :: st) f Q := pz_go (pz_so d116_222 rfl)
theorem d116_223 : decode (pz_b 116) 223 = .ok (.getfield 13, 3) := by decide +kernel
theorem q116_223 {dA : Nat → ClassId} {d : Nat} {st : List Value} {f : pz_F} {Q : Option Value → pz_F → Prop} {v0 v1 v2 v3 v4 : Value} {a : Nat} : pz_R dA d 116 223 [v0, v1, v2, v3, v4] (.ref a :: st) f Q = pz_o (pz_gf f a 6 2) (fun v => pz_R dA d 116 226 [v0, v1, v2, v3, v4] (v :: st) f Q) := pz_gg d116_223 rfl
theorem d116_226 : decode (pz_b 116) 226 = .ok (.iload_n 1, 1) := by decide +kernel
theorem q116_226 {dA : Nat → ClassId} {d : Nat} {st : List Value} {f : pz_F} {Q : Option Value → pz_F → Prop} {v0 v2 v3 v4 : Value} {x : Int32} : pz_R dA d 116 226 [v0, .int x, v2, v3, v4] st f Q = pz_R dA d 116 227 [v0, .int x, v2, v3, v4] (.int x :: st) f Q := pz_go (pz_so d116_226 rfl)
theorem d116_227 : decode (pz_b 116) 227 = .ok (.iaload, 1) := by decide +kernel
theorem q116_227 {dA : Nat → ClassId} {d : Nat} {st : List Value} {f : pz_F} {Q : Option Value → pz_F → Prop} {v0 v1 v2 v3 v4 : Value} {i : Int32} {a : Nat} : pz_R dA d 116 227 [v0, v1, v2, v3, v4] (.int i :: .ref a :: st) f Q = pz_o (pz_il (dA 0) f a i) (fun x => pz_R dA d 116 228 [v0, v1, v2, v3, v4] (.int x :: st) f Q) := pz_gil d116_227
theorem d116_228 : decode (pz_b 116) 228 = .ok (.iconst 4, 1) := by decide +kernel
theorem q116_228 {dA : Nat → ClassId} {d : Nat} {st : List Value} {f : pz_F} {Q : Option Value → pz_F → Prop} {v0 v1 v2 v3 v4 : Value} : pz_R dA d 116 228 [v0, v1, v2, v3, v4] st f Q = pz_R dA d 116 229 [v0, v1, v2, v3, v4] (.int 4 :: st) f Q := pz_go (pz_so d116_228 rfl)
theorem d116_229 : decode (pz_b 116) 229 = .ok (.if_icmp .ne 51, 3) := by decide +kernel
theorem q116_229 {dA : Nat → ClassId} {d : Nat} {st : List Value} {f : pz_F} {Q : Option Value → pz_F → Prop} {v0 v1 v2 v3 v4 : Value} {x y : Int32} : pz_R dA d 116 229 [v0, v1, v2, v3, v4] (.int y :: .int x :: st) f Q = (if x = y then pz_R dA d 116 232 [v0, v1, v2, v3, v4] st f Q else pz_R dA d 116 280 [v0, v1, v2, v3, v4] st f Q) := pz_gjn .ne d116_229 rfl
theorem d116_232 : decode (pz_b 116) 232 = .ok (.aload_n 0, 1) := by decide +kernel
theorem q116_232 {dA : Nat → ClassId} {d : Nat} {st : List Value} {f : pz_F} {Q : Option Value → pz_F → Prop} {v1 v2 v3 v4 : Value} {x : Nat} : pz_R dA d 116 232 [.ref x, v1, v2, v3, v4] st f Q = pz_R dA d 116 233 [.ref x, v1, v2, v3, v4] (.ref x :: st) f Q := pz_go (pz_so d116_232 rfl)
theorem d116_233 : decode (pz_b 116) 233 = .ok (.getfield 26, 3) := by decide +kernel
theorem q116_233 {dA : Nat → ClassId} {d : Nat} {st : List Value} {f : pz_F} {Q : Option Value → pz_F → Prop} {v0 v1 v2 v3 v4 : Value} {a : Nat} : pz_R dA d 116 233 [v0, v1, v2, v3, v4] (.ref a :: st) f Q = pz_o (pz_gf f a 6 6) (fun v => pz_R dA d 116 236 [v0, v1, v2, v3, v4] (v :: st) f Q) := pz_gg d116_233 rfl
theorem d116_236 : decode (pz_b 116) 236 = .ok (.iload_n 1, 1) := by decide +kernel
theorem q116_236 {dA : Nat → ClassId} {d : Nat} {st : List Value} {f : pz_F} {Q : Option Value → pz_F → Prop} {v0 v2 v3 v4 : Value} {x : Int32} : pz_R dA d 116 236 [v0, .int x, v2, v3, v4] st f Q = pz_R dA d 116 237 [v0, .int x, v2, v3, v4] (.int x :: st) f Q := pz_go (pz_so d116_236 rfl)
theorem d116_237 : decode (pz_b 116) 237 = .ok (.iaload, 1) := by decide +kernel
theorem q116_237 {dA : Nat → ClassId} {d : Nat} {st : List Value} {f : pz_F} {Q : Option Value → pz_F → Prop} {v0 v1 v2 v3 v4 : Value} {i : Int32} {a : Nat} : pz_R dA d 116 237 [v0, v1, v2, v3, v4] (.int i :: .ref a :: st) f Q = pz_o (pz_il (dA 0) f a i) (fun x => pz_R dA d 116 238 [v0, v1, v2, v3, v4] (.int x :: st) f Q) := pz_gil d116_237
theorem d116_238 : decode (pz_b 116) 238 = .ok (.bipush 63, 2) := by decide +kernel
theorem q116_238 {dA : Nat → ClassId} {d : Nat} {st : List Value} {f : pz_F} {Q : Option Value → pz_F → Prop} {v0 v1 v2 v3 v4 : Value} : pz_R dA d 116 238 [v0, v1, v2, v3, v4] st f Q = pz_R dA d 116 240 [v0, v1, v2, v3, v4] (.int 63 :: st) f Q := pz_go (pz_so d116_238 rfl)
theorem d116_240 : decode (pz_b 116) 240 = .ok (.if_icmp .eq 40, 3) := by decide +kernel
theorem q116_240 {dA : Nat → ClassId} {d : Nat} {st : List Value} {f : pz_F} {Q : Option Value → pz_F → Prop} {v0 v1 v2 v3 v4 : Value} {x y : Int32} : pz_R dA d 116 240 [v0, v1, v2, v3, v4] (.int y :: .int x :: st) f Q = (if x = y then pz_R dA d 116 280 [v0, v1, v2, v3, v4] st f Q else pz_R dA d 116 243 [v0, v1, v2, v3, v4] st f Q) := pz_gjn .eq d116_240 rfl
theorem d116_243 : decode (pz_b 116) 243 = .ok (.aload_n 0, 1) := by decide +kernel
theorem q116_243 {dA : Nat → ClassId} {d : Nat} {st : List Value} {f : pz_F} {Q : Option Value → pz_F → Prop} {v1 v2 v3 v4 : Value} {x : Nat} : pz_R dA d 116 243 [.ref x, v1, v2, v3, v4] st f Q = pz_R dA d 116 244 [.ref x, v1, v2, v3, v4] (.ref x :: st) f Q := pz_go (pz_so d116_243 rfl)
theorem d116_244 : decode (pz_b 116) 244 = .ok (.bipush 6, 2) := by decide +kernel
theorem q116_244 {dA : Nat → ClassId} {d : Nat} {st : List Value} {f : pz_F} {Q : Option Value → pz_F → Prop} {v0 v1 v2 v3 v4 : Value} : pz_R dA d 116 244 [v0, v1, v2, v3, v4] st f Q = pz_R dA d 116 246 [v0, v1, v2, v3, v4] (.int 6 :: st) f Q := pz_go (pz_so d116_244 rfl)
theorem d116_246 : decode (pz_b 116) 246 = .ok (.iload_n 1, 1) := by decide +kernel
theorem q116_246 {dA : Nat → ClassId} {d : Nat} {st : List Value} {f : pz_F} {Q : Option Value → pz_F → Prop} {v0 v2 v3 v4 : Value} {x : Int32} : pz_R dA d 116 246 [v0, .int x, v2, v3, v4] st f Q = pz_R dA d 116 247 [v0, .int x, v2, v3, v4] (.int x :: st) f Q := pz_go (pz_so d116_246 rfl)
theorem d116_247 : decode (pz_b 116) 247 = .ok (.iconst 1, 1) := by decide +kernel
theorem q116_247 {dA : Nat → ClassId} {d : Nat} {st : List Value} {f : pz_F} {Q : Option Value → pz_F → Prop} {v0 v1 v2 v3 v4 : Value} : pz_R dA d 116 247 [v0, v1, v2, v3, v4] st f Q = pz_R dA d 116 248 [v0, v1, v2, v3, v4] (.int 1 :: st) f Q := pz_go (pz_so d116_247 rfl)
theorem d116_248 : decode (pz_b 116) 248 = .ok (.iload_n 1, 1) := by decide +kernel
theorem q116_248 {dA : Nat → ClassId} {d : Nat} {st : List Value} {f : pz_F} {Q : Option Value → pz_F → Prop} {v0 v2 v3 v4 : Value} {x : Int32} : pz_R dA d 116 248 [v0, .int x, v2, v3, v4] st f Q = pz_R dA d 116 249 [v0, .int x, v2, v3, v4] (.int x :: st) f Q := pz_go (pz_so d116_248 rfl)
theorem d116_249 : decode (pz_b 116) 249 = .ok (.isub, 1) := by decide +kernel
theorem q116_249 {dA : Nat → ClassId} {d : Nat} {st : List Value} {f : pz_F} {Q : Option Value → pz_F → Prop} {v0 v1 v2 v3 v4 : Value} {x y : Int32} : pz_R dA d 116 249 [v0, v1, v2, v3, v4] (.int y :: .int x :: st) f Q = pz_R dA d 116 250 [v0, v1, v2, v3, v4] (.int (x - y) :: st) f Q := pz_go (pz_so d116_249 rfl)
theorem d116_250 : decode (pz_b 116) 250 = .ok (.bipush 63, 2) := by decide +kernel
theorem q116_250 {dA : Nat → ClassId} {d : Nat} {st : List Value} {f : pz_F} {Q : Option Value → pz_F → Prop} {v0 v1 v2 v3 v4 : Value} : pz_R dA d 116 250 [v0, v1, v2, v3, v4] st f Q = pz_R dA d 116 252 [v0, v1, v2, v3, v4] (.int 63 :: st) f Q := pz_go (pz_so d116_250 rfl)
theorem d116_252 : decode (pz_b 116) 252 = .ok (.aload_n 0, 1) := by decide +kernel
theorem q116_252 {dA : Nat → ClassId} {d : Nat} {st : List Value} {f : pz_F} {Q : Option Value → pz_F → Prop} {v1 v2 v3 v4 : Value} {x : Nat} : pz_R dA d 116 252 [.ref x, v1, v2, v3, v4] st f Q = pz_R dA d 116 253 [.ref x, v1, v2, v3, v4] (.ref x :: st) f Q := pz_go (pz_so d116_252 rfl)
theorem d116_253 : decode (pz_b 116) 253 = .ok (.getfield 26, 3) := by decide +kernel
theorem q116_253 {dA : Nat → ClassId} {d : Nat} {st : List Value} {f : pz_F} {Q : Option Value → pz_F → Prop} {v0 v1 v2 v3 v4 : Value} {a : Nat} : pz_R dA d 116 253 [v0, v1, v2, v3, v4] (.ref a :: st) f Q = pz_o (pz_gf f a 6 6) (fun v => pz_R dA d 116 256 [v0, v1, v2, v3, v4] (v :: st) f Q) := pz_gg d116_253 rfl
theorem d116_256 : decode (pz_b 116) 256 = .ok (.iload_n 1, 1) := by decide +kernel
theorem q116_256 {dA : Nat → ClassId} {d : Nat} {st : List Value} {f : pz_F} {Q : Option Value → pz_F → Prop} {v0 v2 v3 v4 : Value} {x : Int32} : pz_R dA d 116 256 [v0, .int x, v2, v3, v4] st f Q = pz_R dA d 116 257 [v0, .int x, v2, v3, v4] (.int x :: st) f Q := pz_go (pz_so d116_256 rfl)
theorem d116_257 : decode (pz_b 116) 257 = .ok (.iaload, 1) := by decide +kernel
theorem q116_257 {dA : Nat → ClassId} {d : Nat} {st : List Value} {f : pz_F} {Q : Option Value → pz_F → Prop} {v0 v1 v2 v3 v4 : Value} {i : Int32} {a : Nat} : pz_R dA d 116 257 [v0, v1, v2, v3, v4] (.int i :: .ref a :: st) f Q = pz_o (pz_il (dA 0) f a i) (fun x => pz_R dA d 116 258 [v0, v1, v2, v3, v4] (.int x :: st) f Q) := pz_gil d116_257
theorem d116_258 : decode (pz_b 116) 258 = .ok (.isub, 1) := by decide +kernel
theorem q116_258 {dA : Nat → ClassId} {d : Nat} {st : List Value} {f : pz_F} {Q : Option Value → pz_F → Prop} {v0 v1 v2 v3 v4 : Value} {x y : Int32} : pz_R dA d 116 258 [v0, v1, v2, v3, v4] (.int y :: .int x :: st) f Q = pz_R dA d 116 259 [v0, v1, v2, v3, v4] (.int (x - y) :: st) f Q := pz_go (pz_so d116_258 rfl)
theorem d116_259 : decode (pz_b 116) 259 = .ok (.iconst 0, 1) := by decide +kernel
theorem q116_259 {dA : Nat → ClassId} {d : Nat} {st : List Value} {f : pz_F} {Q : Option Value → pz_F → Prop} {v0 v1 v2 v3 v4 : Value} : pz_R dA d 116 259 [v0, v1, v2, v3, v4] st f Q = pz_R dA d 116 260 [v0, v1, v2, v3, v4] (.int 0 :: st) f Q := pz_go (pz_so d116_259 rfl)
theorem d116_260 : decode (pz_b 116) 260 = .ok (.invokevirtual 100, 3) := by decide +kernel
theorem q116_260 {dA : Nat → ClassId} {d : Nat} {st : List Value} {f : pz_F} {Q : Option Value → pz_F → Prop} {v0 v1 v2 v3 v4 : Value} {c0 : Int32} {c1 : Int32} {c2 : Int32} {c3 : Int32} {c4 : Int32} {b : Nat} (hr : st.length ≤ 4) : pz_R dA (d + 1) 116 260 [v0, v1, v2, v3, v4] (.int c4 :: .int c3 :: .int c2 :: .int c1 :: .int c0 :: .ref b :: st) f Q = pz_o (pz_gu f b 6) (fun _ => pz_C dA d 94 [.ref b, .int c0, .int c1, .int c2, .int c3, .int c4] f (fun r f' => pz_R dA (d + 1) 116 263 [v0, v1, v2, v3, v4] (r.toList ++ st) f' Q)) := pz_gcv (As := [.int c0, .int c1, .int c2, .int c3, .int c4]) d116_260 rfl rfl rfl hr
theorem d116_263 : decode (pz_b 116) 263 = .ok (.aload_n 0, 1) := by decide +kernel
theorem q116_263 {dA : Nat → ClassId} {d : Nat} {st : List Value} {f : pz_F} {Q : Option Value → pz_F → Prop} {v1 v2 v3 v4 : Value} {x : Nat} : pz_R dA d 116 263 [.ref x, v1, v2, v3, v4] st f Q = pz_R dA d 116 264 [.ref x, v1, v2, v3, v4] (.ref x :: st) f Q := pz_go (pz_so d116_263 rfl)
theorem d116_264 : decode (pz_b 116) 264 = .ok (.getfield 75, 3) := by decide +kernel
theorem q116_264 {dA : Nat → ClassId} {d : Nat} {st : List Value} {f : pz_F} {Q : Option Value → pz_F → Prop} {v0 v1 v2 v3 v4 : Value} {a : Nat} : pz_R dA d 116 264 [v0, v1, v2, v3, v4] (.ref a :: st) f Q = pz_o (pz_gf f a 6 23) (fun v => pz_R dA d 116 267 [v0, v1, v2, v3, v4] (v :: st) f Q) := pz_gg d116_264 rfl
theorem d116_267 : decode (pz_b 116) 267 = .ok (.bipush 11, 2) := by decide +kernel
theorem q116_267 {dA : Nat → ClassId} {d : Nat} {st : List Value} {f : pz_F} {Q : Option Value → pz_F → Prop} {v0 v1 v2 v3 v4 : Value} : pz_R dA d 116 267 [v0, v1, v2, v3, v4] st f Q = pz_R dA d 116 269 [v0, v1, v2, v3, v4] (.int 11 :: st) f Q := pz_go (pz_so d116_267 rfl)
theorem d116_269 : decode (pz_b 116) 269 = .ok (.aload_n 0, 1) := by decide +kernel
theorem q116_269 {dA : Nat → ClassId} {d : Nat} {st : List Value} {f : pz_F} {Q : Option Value → pz_F → Prop} {v1 v2 v3 v4 : Value} {x : Nat} : pz_R dA d 116 269 [.ref x, v1, v2, v3, v4] st f Q = pz_R dA d 116 270 [.ref x, v1, v2, v3, v4] (.ref x :: st) f Q := pz_go (pz_so d116_269 rfl)
theorem d116_270 : decode (pz_b 116) 270 = .ok (.getfield 20, 3) := by decide +kernel
theorem q116_270 {dA : Nat → ClassId} {d : Nat} {st : List Value} {f : pz_F} {Q : Option Value → pz_F → Prop} {v0 v1 v2 v3 v4 : Value} {a : Nat} : pz_R dA d 116 270 [v0, v1, v2, v3, v4] (.ref a :: st) f Q = pz_o (pz_gf f a 6 4) (fun v => pz_R dA d 116 273 [v0, v1, v2, v3, v4] (v :: st) f Q) := pz_gg d116_270 rfl
theorem d116_273 : decode (pz_b 116) 273 = .ok (.iload_n 1, 1) := by decide +kernel
theorem q116_273 {dA : Nat → ClassId} {d : Nat} {st : List Value} {f : pz_F} {Q : Option Value → pz_F → Prop} {v0 v2 v3 v4 : Value} {x : Int32} : pz_R dA d 116 273 [v0, .int x, v2, v3, v4] st f Q = pz_R dA d 116 274 [v0, .int x, v2, v3, v4] (.int x :: st) f Q := pz_go (pz_so d116_273 rfl)
theorem d116_274 : decode (pz_b 116) 274 = .ok (.iaload, 1) := by decide +kernel
theorem q116_274 {dA : Nat → ClassId} {d : Nat} {st : List Value} {f : pz_F} {Q : Option Value → pz_F → Prop} {v0 v1 v2 v3 v4 : Value} {i : Int32} {a : Nat} : pz_R dA d 116 274 [v0, v1, v2, v3, v4] (.int i :: .ref a :: st) f Q = pz_o (pz_il (dA 0) f a i) (fun x => pz_R dA d 116 275 [v0, v1, v2, v3, v4] (.int x :: st) f Q) := pz_gil d116_274
theorem d116_275 : decode (pz_b 116) 275 = .ok (.iastore, 1) := by decide +kernel
theorem q116_275 {dA : Nat → ClassId} {d : Nat} {st : List Value} {f : pz_F} {Q : Option Value → pz_F → Prop} {v0 v1 v2 v3 v4 : Value} {x i : Int32} {a : Nat} : pz_R dA d 116 275 [v0, v1, v2, v3, v4] (.int x :: .int i :: .ref a :: st) f Q = pz_o (pz_is (dA 0) f a i x) (fun f' => pz_R dA d 116 276 [v0, v1, v2, v3, v4] st f' Q) := pz_gis d116_275
theorem d116_276 : decode (pz_b 116) 276 = .ok (.aload_n 0, 1) := by decide +kernel
theorem q116_276 {dA : Nat → ClassId} {d : Nat} {st : List Value} {f : pz_F} {Q : Option Value → pz_F → Prop} {v1 v2 v3 v4 : Value} {x : Nat} : pz_R dA d 116 276 [.ref x, v1, v2, v3, v4] st f Q = pz_R dA d 116 277 [.ref x, v1, v2, v3, v4] (.ref x :: st) f Q := pz_go (pz_so d116_276 rfl)
theorem d116_277 : decode (pz_b 116) 277 = .ok (.invokevirtual 104, 3) := by decide +kernel
theorem q116_277 {dA : Nat → ClassId} {d : Nat} {st : List Value} {f : pz_F} {Q : Option Value → pz_F → Prop} {v0 v1 v2 v3 v4 : Value} {b : Nat} (hr : st.length ≤ 4) : pz_R dA (d + 1) 116 277 [v0, v1, v2, v3, v4] (.ref b :: st) f Q = pz_o (pz_gu f b 6) (fun _ => pz_C dA d 95 [.ref b] f (fun r f' => pz_R dA (d + 1) 116 280 [v0, v1, v2, v3, v4] (r.toList ++ st) f' Q)) := pz_gcv (As := []) d116_277 rfl rfl rfl hr
theorem d116_280 : decode (pz_b 116) 280 = .ok (.return_, 1) := by decide +kernel
theorem q116_280 {dA : Nat → ClassId} {d : Nat} {f : pz_F} {Q : Option Value → pz_F → Prop} {v0 v1 v2 v3 v4 : Value} : pz_R dA d 116 280 [v0, v1, v2, v3, v4] [] f Q = Q none f := pz_gr (pz_so d116_280 rfl)
/-! X_tick ()I -/
theorem e117 {dA : Nat → ClassId} {d : Nat} {f : pz_F} {Q : Option Value → pz_F → Prop} {a0 : Nat} : pz_C dA d 117 [.ref a0] f Q = pz_R dA d 117 0 [.ref a0, .retAddr 0] [] f Q := rfl
theorem d117_0 : decode (pz_b 117) 0 = .ok (.aload_n 0, 1) := by decide +kernel
theorem q117_0 {dA : Nat → ClassId} {d : Nat} {st : List Value} {f : pz_F} {Q : Option Value → pz_F → Prop} {v1 : Value} {x : Nat} : pz_R dA d 117 0 [.ref x, v1] st f Q = pz_R dA d 117 1 [.ref x, v1] (.ref x :: st) f Q := pz_go (pz_so d117_0 rfl)
theorem d117_1 : decode (pz_b 117) 1 = .ok (.dup, 1) := by decide +kernel
theorem q117_1 {dA : Nat → ClassId} {d : Nat} {st : List Value} {f : pz_F} {Q : Option Value → pz_F → Prop} {v0 v1 : Value} {x : Nat} : pz_R dA d 117 1 [v0, v1] (.ref x :: st) f Q = pz_R dA d 117 2 [v0, v1] (.ref x :: .ref x :: st) f Q := pz_go (pz_so d117_1 rfl)
theorem d117_2 : decode (pz_b 117) 2 = .ok (.getfield 78, 3) := by decide +kernel
theorem q117_2 {dA : Nat → ClassId} {d : Nat} {st : List Value} {f : pz_F} {Q : Option Value → pz_F → Prop} {v0 v1 : Value} {a : Nat} : pz_R dA d 117 2 [v0, v1] (.ref a :: st) f Q = pz_o (pz_gf f a 6 0) (fun v => pz_R dA d 117 5 [v0, v1] (v :: st) f Q) := pz_gg d117_2 rfl
theorem d117_5 : decode (pz_b 117) 5 = .ok (.iconst 1, 1) := by decide +kernel
theorem q117_5 {dA : Nat → ClassId} {d : Nat} {st : List Value} {f : pz_F} {Q : Option Value → pz_F → Prop} {v0 v1 : Value} : pz_R dA d 117 5 [v0, v1] st f Q = pz_R dA d 117 6 [v0, v1] (.int 1 :: st) f Q := pz_go (pz_so d117_5 rfl)
theorem d117_6 : decode (pz_b 117) 6 = .ok (.iadd, 1) := by decide +kernel
theorem q117_6 {dA : Nat → ClassId} {d : Nat} {st : List Value} {f : pz_F} {Q : Option Value → pz_F → Prop} {v0 v1 : Value} {x y : Int32} : pz_R dA d 117 6 [v0, v1] (.int y :: .int x :: st) f Q = pz_R dA d 117 7 [v0, v1] (.int (x + y) :: st) f Q := pz_go (pz_so d117_6 rfl)
theorem d117_7 : decode (pz_b 117) 7 = .ok (.putfield 78, 3) := by decide +kernel
theorem q117_7 {dA : Nat → ClassId} {d : Nat} {st : List Value} {f : pz_F} {Q : Option Value → pz_F → Prop} {v0 v1 : Value} {x : Int32} {a : Nat} : pz_R dA d 117 7 [v0, v1] (.int x :: .ref a :: st) f Q = pz_o (pz_pf f a 6 0 (.int x)) (fun f' => pz_R dA d 117 10 [v0, v1] st f' Q) := pz_gp d117_7 rfl rfl rfl rfl
theorem d117_10 : decode (pz_b 117) 10 = .ok (.aload_n 0, 1) := by decide +kernel
theorem q117_10 {dA : Nat → ClassId} {d : Nat} {st : List Value} {f : pz_F} {Q : Option Value → pz_F → Prop} {v1 : Value} {x : Nat} : pz_R dA d 117 10 [.ref x, v1] st f Q = pz_R dA d 117 11 [.ref x, v1] (.ref x :: st) f Q := pz_go (pz_so d117_10 rfl)
theorem d117_11 : decode (pz_b 117) 11 = .ok (.getfield 82, 3) := by decide +kernel
theorem q117_11 {dA : Nat → ClassId} {d : Nat} {st : List Value} {f : pz_F} {Q : Option Value → pz_F → Prop} {v0 v1 : Value} {a : Nat} : pz_R dA d 117 11 [v0, v1] (.ref a :: st) f Q = pz_o (pz_gf f a 6 20) (fun v => pz_R dA d 117 14 [v0, v1] (v :: st) f Q) := pz_gg d117_11 rfl
theorem d117_14 : decode (pz_b 117) 14 = .ok (.iconst 1, 1) := by decide +kernel
theorem q117_14 {dA : Nat → ClassId} {d : Nat} {st : List Value} {f : pz_F} {Q : Option Value → pz_F → Prop} {v0 v1 : Value} : pz_R dA d 117 14 [v0, v1] st f Q = pz_R dA d 117 15 [v0, v1] (.int 1 :: st) f Q := pz_go (pz_so d117_14 rfl)
theorem d117_15 : decode (pz_b 117) 15 = .ok (.isub, 1) := by decide +kernel
theorem q117_15 {dA : Nat → ClassId} {d : Nat} {st : List Value} {f : pz_F} {Q : Option Value → pz_F → Prop} {v0 v1 : Value} {x y : Int32} : pz_R dA d 117 15 [v0, v1] (.int y :: .int x :: st) f Q = pz_R dA d 117 16 [v0, v1] (.int (x - y) :: st) f Q := pz_go (pz_so d117_15 rfl)
theorem d117_16 : decode (pz_b 117) 16 = .ok (.istore_n 1, 1) := by decide +kernel
theorem q117_16 {dA : Nat → ClassId} {d : Nat} {st : List Value} {f : pz_F} {Q : Option Value → pz_F → Prop} {v0 v1 : Value} {x : Int32} : pz_R dA d 117 16 [v0, v1] (.int x :: st) f Q = pz_R dA d 117 17 [v0, .int x] st f Q := pz_go (pz_so d117_16 rfl)
theorem d117_17 : decode (pz_b 117) 17 = .ok (.iload_n 1, 1) := by decide +kernel
theorem q117_17 {dA : Nat → ClassId} {d : Nat} {st : List Value} {f : pz_F} {Q : Option Value → pz_F → Prop} {v0 : Value} {x : Int32} : pz_R dA d 117 17 [v0, .int x] st f Q = pz_R dA d 117 18 [v0, .int x] (.int x :: st) f Q := pz_go (pz_so d117_17 rfl)
theorem d117_18 : decode (pz_b 117) 18 = .ok (.ifCond .lt 34, 3) := by decide +kernel
theorem q117_18 {dA : Nat → ClassId} {d : Nat} {st : List Value} {f : pz_F} {Q : Option Value → pz_F → Prop} {v0 v1 : Value} {x : Int32} : pz_R dA d 117 18 [v0, v1] (.int x :: st) f Q = (if x < 0 then pz_R dA d 117 52 [v0, v1] st f Q else pz_R dA d 117 21 [v0, v1] st f Q) := pz_gj1 .lt d117_18 rfl
theorem d117_21 : decode (pz_b 117) 21 = .ok (.aload_n 0, 1) := by decide +kernel
theorem q117_21 {dA : Nat → ClassId} {d : Nat} {st : List Value} {f : pz_F} {Q : Option Value → pz_F → Prop} {v1 : Value} {x : Nat} : pz_R dA d 117 21 [.ref x, v1] st f Q = pz_R dA d 117 22 [.ref x, v1] (.ref x :: st) f Q := pz_go (pz_so d117_21 rfl)
theorem d117_22 : decode (pz_b 117) 22 = .ok (.getfield 78, 3) := by decide +kernel
theorem q117_22 {dA : Nat → ClassId} {d : Nat} {st : List Value} {f : pz_F} {Q : Option Value → pz_F → Prop} {v0 v1 : Value} {a : Nat} : pz_R dA d 117 22 [v0, v1] (.ref a :: st) f Q = pz_o (pz_gf f a 6 0) (fun v => pz_R dA d 117 25 [v0, v1] (v :: st) f Q) := pz_gg d117_22 rfl
theorem d117_25 : decode (pz_b 117) 25 = .ok (.aload_n 0, 1) := by decide +kernel
theorem q117_25 {dA : Nat → ClassId} {d : Nat} {st : List Value} {f : pz_F} {Q : Option Value → pz_F → Prop} {v1 : Value} {x : Nat} : pz_R dA d 117 25 [.ref x, v1] st f Q = pz_R dA d 117 26 [.ref x, v1] (.ref x :: st) f Q := pz_go (pz_so d117_25 rfl)
theorem d117_26 : decode (pz_b 117) 26 = .ok (.getfield 69, 3) := by decide +kernel
theorem q117_26 {dA : Nat → ClassId} {d : Nat} {st : List Value} {f : pz_F} {Q : Option Value → pz_F → Prop} {v0 v1 : Value} {a : Nat} : pz_R dA d 117 26 [v0, v1] (.ref a :: st) f Q = pz_o (pz_gf f a 6 21) (fun v => pz_R dA d 117 29 [v0, v1] (v :: st) f Q) := pz_gg d117_26 rfl
theorem d117_29 : decode (pz_b 117) 29 = .ok (.bipush 12, 2) := by decide +kernel
theorem q117_29 {dA : Nat → ClassId} {d : Nat} {st : List Value} {f : pz_F} {Q : Option Value → pz_F → Prop} {v0 v1 : Value} : pz_R dA d 117 29 [v0, v1] st f Q = pz_R dA d 117 31 [v0, v1] (.int 12 :: st) f Q := pz_go (pz_so d117_29 rfl)
theorem d117_31 : decode (pz_b 117) 31 = .ok (.iload_n 1, 1) := by decide +kernel
theorem q117_31 {dA : Nat → ClassId} {d : Nat} {st : List Value} {f : pz_F} {Q : Option Value → pz_F → Prop} {v0 : Value} {x : Int32} : pz_R dA d 117 31 [v0, .int x] st f Q = pz_R dA d 117 32 [v0, .int x] (.int x :: st) f Q := pz_go (pz_so d117_31 rfl)
theorem d117_32 : decode (pz_b 117) 32 = .ok (.imul, 1) := by decide +kernel
theorem q117_32 {dA : Nat → ClassId} {d : Nat} {st : List Value} {f : pz_F} {Q : Option Value → pz_F → Prop} {v0 v1 : Value} {x y : Int32} : pz_R dA d 117 32 [v0, v1] (.int y :: .int x :: st) f Q = pz_R dA d 117 33 [v0, v1] (.int (x * y) :: st) f Q := pz_go (pz_so d117_32 rfl)
theorem d117_33 : decode (pz_b 117) 33 = .ok (.iconst 5, 1) := by decide +kernel
theorem q117_33 {dA : Nat → ClassId} {d : Nat} {st : List Value} {f : pz_F} {Q : Option Value → pz_F → Prop} {v0 v1 : Value} : pz_R dA d 117 33 [v0, v1] st f Q = pz_R dA d 117 34 [v0, v1] (.int 5 :: st) f Q := pz_go (pz_so d117_33 rfl)
theorem d117_34 : decode (pz_b 117) 34 = .ok (.iadd, 1) := by decide +kernel
theorem q117_34 {dA : Nat → ClassId} {d : Nat} {st : List Value} {f : pz_F} {Q : Option Value → pz_F → Prop} {v0 v1 : Value} {x y : Int32} : pz_R dA d 117 34 [v0, v1] (.int y :: .int x :: st) f Q = pz_R dA d 117 35 [v0, v1] (.int (x + y) :: st) f Q := pz_go (pz_so d117_34 rfl)
theorem d117_35 : decode (pz_b 117) 35 = .ok (.iaload, 1) := by decide +kernel
theorem q117_35 {dA : Nat → ClassId} {d : Nat} {st : List Value} {f : pz_F} {Q : Option Value → pz_F → Prop} {v0 v1 : Value} {i : Int32} {a : Nat} : pz_R dA d 117 35 [v0, v1] (.int i :: .ref a :: st) f Q = pz_o (pz_il (dA 0) f a i) (fun x => pz_R dA d 117 36 [v0, v1] (.int x :: st) f Q) := pz_gil d117_35
theorem d117_36 : decode (pz_b 117) 36 = .ok (.isub, 1) := by decide +kernel
theorem q117_36 {dA : Nat → ClassId} {d : Nat} {st : List Value} {f : pz_F} {Q : Option Value → pz_F → Prop} {v0 v1 : Value} {x y : Int32} : pz_R dA d 117 36 [v0, v1] (.int y :: .int x :: st) f Q = pz_R dA d 117 37 [v0, v1] (.int (x - y) :: st) f Q := pz_go (pz_so d117_36 rfl)
theorem d117_37 : decode (pz_b 117) 37 = .ok (.iconst 3, 1) := by decide +kernel
theorem q117_37 {dA : Nat → ClassId} {d : Nat} {st : List Value} {f : pz_F} {Q : Option Value → pz_F → Prop} {v0 v1 : Value} : pz_R dA d 117 37 [v0, v1] st f Q = pz_R dA d 117 38 [v0, v1] (.int 3 :: st) f Q := pz_go (pz_so d117_37 rfl)
theorem d117_38 : decode (pz_b 117) 38 = .ok (.if_icmp .le 8, 3) := by decide +kernel
theorem q117_38 {dA : Nat → ClassId} {d : Nat} {st : List Value} {f : pz_F} {Q : Option Value → pz_F → Prop} {v0 v1 : Value} {x y : Int32} : pz_R dA d 117 38 [v0, v1] (.int y :: .int x :: st) f Q = (if x ≤ y then pz_R dA d 117 46 [v0, v1] st f Q else pz_R dA d 117 41 [v0, v1] st f Q) := pz_gjn .le d117_38 rfl
theorem d117_41 : decode (pz_b 117) 41 = .ok (.aload_n 0, 1) := by decide +kernel
theorem q117_41 {dA : Nat → ClassId} {d : Nat} {st : List Value} {f : pz_F} {Q : Option Value → pz_F → Prop} {v1 : Value} {x : Nat} : pz_R dA d 117 41 [.ref x, v1] st f Q = pz_R dA d 117 42 [.ref x, v1] (.ref x :: st) f Q := pz_go (pz_so d117_41 rfl)
theorem d117_42 : decode (pz_b 117) 42 = .ok (.iload_n 1, 1) := by decide +kernel
theorem q117_42 {dA : Nat → ClassId} {d : Nat} {st : List Value} {f : pz_F} {Q : Option Value → pz_F → Prop} {v0 : Value} {x : Int32} : pz_R dA d 117 42 [v0, .int x] st f Q = pz_R dA d 117 43 [v0, .int x] (.int x :: st) f Q := pz_go (pz_so d117_42 rfl)
theorem d117_43 : decode (pz_b 117) 43 = .ok (.invokevirtual 156, 3) := by decide +kernel
theorem q117_43 {dA : Nat → ClassId} {d : Nat} {st : List Value} {f : pz_F} {Q : Option Value → pz_F → Prop} {v0 v1 : Value} {c0 : Int32} {b : Nat} (hr : st.length ≤ 4) : pz_R dA (d + 1) 117 43 [v0, v1] (.int c0 :: .ref b :: st) f Q = pz_o (pz_gu f b 6) (fun _ => pz_C dA d 96 [.ref b, .int c0] f (fun r f' => pz_R dA (d + 1) 117 46 [v0, v1] (r.toList ++ st) f' Q)) := pz_gcv (As := [.int c0]) d117_43 rfl rfl rfl hr
theorem d117_46 : decode (pz_b 117) 46 = .ok (.iinc 1 (-1), 3) := by decide +kernel
theorem q117_46 {dA : Nat → ClassId} {d : Nat} {st : List Value} {f : pz_F} {Q : Option Value → pz_F → Prop} {v0 : Value} {x : Int32} : pz_R dA d 117 46 [v0, .int x] st f Q = pz_R dA d 117 49 [v0, .int (x + (-1))] st f Q := pz_go (pz_so d117_46 rfl)
theorem d117_49 : decode (pz_b 117) 49 = .ok (.goto (-32), 3) := by decide +kernel
theorem q117_49 {dA : Nat → ClassId} {d : Nat} {st : List Value} {f : pz_F} {Q : Option Value → pz_F → Prop} {v0 v1 : Value} : pz_R dA d 117 49 [v0, v1] st f Q = pz_R dA d 117 17 [v0, v1] st f Q := pz_go (pz_so d117_49 rfl)
theorem d117_52 : decode (pz_b 117) 52 = .ok (.iconst 0, 1) := by decide +kernel
theorem q117_52 {dA : Nat → ClassId} {d : Nat} {st : List Value} {f : pz_F} {Q : Option Value → pz_F → Prop} {v0 v1 : Value} : pz_R dA d 117 52 [v0, v1] st f Q = pz_R dA d 117 53 [v0, v1] (.int 0 :: st) f Q := pz_go (pz_so d117_52 rfl)
theorem d117_53 : decode (pz_b 117) 53 = .ok (.istore_n 1, 1) := by decide +kernel
theorem q117_53 {dA : Nat → ClassId} {d : Nat} {st : List Value} {f : pz_F} {Q : Option Value → pz_F → Prop} {v0 v1 : Value} {x : Int32} : pz_R dA d 117 53 [v0, v1] (.int x :: st) f Q = pz_R dA d 117 54 [v0, .int x] st f Q := pz_go (pz_so d117_53 rfl)
theorem d117_54 : decode (pz_b 117) 54 = .ok (.iload_n 1, 1) := by decide +kernel
theorem q117_54 {dA : Nat → ClassId} {d : Nat} {st : List Value} {f : pz_F} {Q : Option Value → pz_F → Prop} {v0 : Value} {x : Int32} : pz_R dA d 117 54 [v0, .int x] st f Q = pz_R dA d 117 55 [v0, .int x] (.int x :: st) f Q := pz_go (pz_so d117_54 rfl)
theorem d117_55 : decode (pz_b 117) 55 = .ok (.iconst 5, 1) := by decide +kernel
theorem q117_55 {dA : Nat → ClassId} {d : Nat} {st : List Value} {f : pz_F} {Q : Option Value → pz_F → Prop} {v0 v1 : Value} : pz_R dA d 117 55 [v0, v1] st f Q = pz_R dA d 117 56 [v0, v1] (.int 5 :: st) f Q := pz_go (pz_so d117_55 rfl)
theorem d117_56 : decode (pz_b 117) 56 = .ok (.if_icmp .ge 45, 3) := by decide +kernel
theorem q117_56 {dA : Nat → ClassId} {d : Nat} {st : List Value} {f : pz_F} {Q : Option Value → pz_F → Prop} {v0 v1 : Value} {x y : Int32} : pz_R dA d 117 56 [v0, v1] (.int y :: .int x :: st) f Q = (if y ≤ x then pz_R dA d 117 101 [v0, v1] st f Q else pz_R dA d 117 59 [v0, v1] st f Q) := pz_gjn .ge d117_56 rfl
theorem d117_59 : decode (pz_b 117) 59 = .ok (.aload_n 0, 1) := by decide +kernel
theorem q117_59 {dA : Nat → ClassId} {d : Nat} {st : List Value} {f : pz_F} {Q : Option Value → pz_F → Prop} {v1 : Value} {x : Nat} : pz_R dA d 117 59 [.ref x, v1] st f Q = pz_R dA d 117 60 [.ref x, v1] (.ref x :: st) f Q := pz_go (pz_so d117_59 rfl)
theorem d117_60 : decode (pz_b 117) 60 = .ok (.getfield 54, 3) := by decide +kernel
theorem q117_60 {dA : Nat → ClassId} {d : Nat} {st : List Value} {f : pz_F} {Q : Option Value → pz_F → Prop} {v0 v1 : Value} {a : Nat} : pz_R dA d 117 60 [v0, v1] (.ref a :: st) f Q = pz_o (pz_gf f a 6 15) (fun v => pz_R dA d 117 63 [v0, v1] (v :: st) f Q) := pz_gg d117_60 rfl
theorem d117_63 : decode (pz_b 117) 63 = .ok (.iload_n 1, 1) := by decide +kernel
theorem q117_63 {dA : Nat → ClassId} {d : Nat} {st : List Value} {f : pz_F} {Q : Option Value → pz_F → Prop} {v0 : Value} {x : Int32} : pz_R dA d 117 63 [v0, .int x] st f Q = pz_R dA d 117 64 [v0, .int x] (.int x :: st) f Q := pz_go (pz_so d117_63 rfl)
theorem d117_64 : decode (pz_b 117) 64 = .ok (.iaload, 1) := by decide +kernel
theorem q117_64 {dA : Nat → ClassId} {d : Nat} {st : List Value} {f : pz_F} {Q : Option Value → pz_F → Prop} {v0 v1 : Value} {i : Int32} {a : Nat} : pz_R dA d 117 64 [v0, v1] (.int i :: .ref a :: st) f Q = pz_o (pz_il (dA 0) f a i) (fun x => pz_R dA d 117 65 [v0, v1] (.int x :: st) f Q) := pz_gil d117_64
theorem d117_65 : decode (pz_b 117) 65 = .ok (.ifCond .lt 30, 3) := by decide +kernel
theorem q117_65 {dA : Nat → ClassId} {d : Nat} {st : List Value} {f : pz_F} {Q : Option Value → pz_F → Prop} {v0 v1 : Value} {x : Int32} : pz_R dA d 117 65 [v0, v1] (.int x :: st) f Q = (if x < 0 then pz_R dA d 117 95 [v0, v1] st f Q else pz_R dA d 117 68 [v0, v1] st f Q) := pz_gj1 .lt d117_65 rfl
theorem d117_68 : decode (pz_b 117) 68 = .ok (.aload_n 0, 1) := by decide +kernel
theorem q117_68 {dA : Nat → ClassId} {d : Nat} {st : List Value} {f : pz_F} {Q : Option Value → pz_F → Prop} {v1 : Value} {x : Nat} : pz_R dA d 117 68 [.ref x, v1] st f Q = pz_R dA d 117 69 [.ref x, v1] (.ref x :: st) f Q := pz_go (pz_so d117_68 rfl)
theorem d117_69 : decode (pz_b 117) 69 = .ok (.getfield 57, 3) := by decide +kernel
theorem q117_69 {dA : Nat → ClassId} {d : Nat} {st : List Value} {f : pz_F} {Q : Option Value → pz_F → Prop} {v0 v1 : Value} {a : Nat} : pz_R dA d 117 69 [v0, v1] (.ref a :: st) f Q = pz_o (pz_gf f a 6 16) (fun v => pz_R dA d 117 72 [v0, v1] (v :: st) f Q) := pz_gg d117_69 rfl
theorem d117_72 : decode (pz_b 117) 72 = .ok (.iload_n 1, 1) := by decide +kernel
theorem q117_72 {dA : Nat → ClassId} {d : Nat} {st : List Value} {f : pz_F} {Q : Option Value → pz_F → Prop} {v0 : Value} {x : Int32} : pz_R dA d 117 72 [v0, .int x] st f Q = pz_R dA d 117 73 [v0, .int x] (.int x :: st) f Q := pz_go (pz_so d117_72 rfl)
theorem d117_73 : decode (pz_b 117) 73 = .ok (.iaload, 1) := by decide +kernel
theorem q117_73 {dA : Nat → ClassId} {d : Nat} {st : List Value} {f : pz_F} {Q : Option Value → pz_F → Prop} {v0 v1 : Value} {i : Int32} {a : Nat} : pz_R dA d 117 73 [v0, v1] (.int i :: .ref a :: st) f Q = pz_o (pz_il (dA 0) f a i) (fun x => pz_R dA d 117 74 [v0, v1] (.int x :: st) f Q) := pz_gil d117_73
theorem d117_74 : decode (pz_b 117) 74 = .ok (.aload_n 0, 1) := by decide +kernel
theorem q117_74 {dA : Nat → ClassId} {d : Nat} {st : List Value} {f : pz_F} {Q : Option Value → pz_F → Prop} {v1 : Value} {x : Nat} : pz_R dA d 117 74 [.ref x, v1] st f Q = pz_R dA d 117 75 [.ref x, v1] (.ref x :: st) f Q := pz_go (pz_so d117_74 rfl)
theorem d117_75 : decode (pz_b 117) 75 = .ok (.getfield 78, 3) := by decide +kernel
theorem q117_75 {dA : Nat → ClassId} {d : Nat} {st : List Value} {f : pz_F} {Q : Option Value → pz_F → Prop} {v0 v1 : Value} {a : Nat} : pz_R dA d 117 75 [v0, v1] (.ref a :: st) f Q = pz_o (pz_gf f a 6 0) (fun v => pz_R dA d 117 78 [v0, v1] (v :: st) f Q) := pz_gg d117_75 rfl
theorem d117_78 : decode (pz_b 117) 78 = .ok (.if_icmp .ge 17, 3) := by decide +kernel
theorem q117_78 {dA : Nat → ClassId} {d : Nat} {st : List Value} {f : pz_F} {Q : Option Value → pz_F → Prop} {v0 v1 : Value} {x y : Int32} : pz_R dA d 117 78 [v0, v1] (.int y :: .int x :: st) f Q = (if y ≤ x then pz_R dA d 117 95 [v0, v1] st f Q else pz_R dA d 117 81 [v0, v1] st f Q) := pz_gjn .ge d117_78 rfl
theorem d117_81 : decode (pz_b 117) 81 = .ok (.aload_n 0, 1) := by decide +kernel
theorem q117_81 {dA : Nat → ClassId} {d : Nat} {st : List Value} {f : pz_F} {Q : Option Value → pz_F → Prop} {v1 : Value} {x : Nat} : pz_R dA d 117 81 [.ref x, v1] st f Q = pz_R dA d 117 82 [.ref x, v1] (.ref x :: st) f Q := pz_go (pz_so d117_81 rfl)
theorem d117_82 : decode (pz_b 117) 82 = .ok (.getfield 54, 3) := by decide +kernel
theorem q117_82 {dA : Nat → ClassId} {d : Nat} {st : List Value} {f : pz_F} {Q : Option Value → pz_F → Prop} {v0 v1 : Value} {a : Nat} : pz_R dA d 117 82 [v0, v1] (.ref a :: st) f Q = pz_o (pz_gf f a 6 15) (fun v => pz_R dA d 117 85 [v0, v1] (v :: st) f Q) := pz_gg d117_82 rfl
theorem d117_85 : decode (pz_b 117) 85 = .ok (.iload_n 1, 1) := by decide +kernel
theorem q117_85 {dA : Nat → ClassId} {d : Nat} {st : List Value} {f : pz_F} {Q : Option Value → pz_F → Prop} {v0 : Value} {x : Int32} : pz_R dA d 117 85 [v0, .int x] st f Q = pz_R dA d 117 86 [v0, .int x] (.int x :: st) f Q := pz_go (pz_so d117_85 rfl)
theorem d117_86 : decode (pz_b 117) 86 = .ok (.iconst (-1), 1) := by decide +kernel
theorem q117_86 {dA : Nat → ClassId} {d : Nat} {st : List Value} {f : pz_F} {Q : Option Value → pz_F → Prop} {v0 v1 : Value} : pz_R dA d 117 86 [v0, v1] st f Q = pz_R dA d 117 87 [v0, v1] (.int (-1) :: st) f Q := pz_go (pz_so d117_86 rfl)
theorem d117_87 : decode (pz_b 117) 87 = .ok (.iastore, 1) := by decide +kernel
theorem q117_87 {dA : Nat → ClassId} {d : Nat} {st : List Value} {f : pz_F} {Q : Option Value → pz_F → Prop} {v0 v1 : Value} {x i : Int32} {a : Nat} : pz_R dA d 117 87 [v0, v1] (.int x :: .int i :: .ref a :: st) f Q = pz_o (pz_is (dA 0) f a i x) (fun f' => pz_R dA d 117 88 [v0, v1] st f' Q) := pz_gis d117_87
theorem d117_88 : decode (pz_b 117) 88 = .ok (.aload_n 0, 1) := by decide +kernel
theorem q117_88 {dA : Nat → ClassId} {d : Nat} {st : List Value} {f : pz_F} {Q : Option Value → pz_F → Prop} {v1 : Value} {x : Nat} : pz_R dA d 117 88 [.ref x, v1] st f Q = pz_R dA d 117 89 [.ref x, v1] (.ref x :: st) f Q := pz_go (pz_so d117_88 rfl)
theorem d117_89 : decode (pz_b 117) 89 = .ok (.getfield 57, 3) := by decide +kernel
theorem q117_89 {dA : Nat → ClassId} {d : Nat} {st : List Value} {f : pz_F} {Q : Option Value → pz_F → Prop} {v0 v1 : Value} {a : Nat} : pz_R dA d 117 89 [v0, v1] (.ref a :: st) f Q = pz_o (pz_gf f a 6 16) (fun v => pz_R dA d 117 92 [v0, v1] (v :: st) f Q) := pz_gg d117_89 rfl
theorem d117_92 : decode (pz_b 117) 92 = .ok (.iload_n 1, 1) := by decide +kernel
theorem q117_92 {dA : Nat → ClassId} {d : Nat} {st : List Value} {f : pz_F} {Q : Option Value → pz_F → Prop} {v0 : Value} {x : Int32} : pz_R dA d 117 92 [v0, .int x] st f Q = pz_R dA d 117 93 [v0, .int x] (.int x :: st) f Q := pz_go (pz_so d117_92 rfl)
theorem d117_93 : decode (pz_b 117) 93 = .ok (.iconst 0, 1) := by decide +kernel
theorem q117_93 {dA : Nat → ClassId} {d : Nat} {st : List Value} {f : pz_F} {Q : Option Value → pz_F → Prop} {v0 v1 : Value} : pz_R dA d 117 93 [v0, v1] st f Q = pz_R dA d 117 94 [v0, v1] (.int 0 :: st) f Q := pz_go (pz_so d117_93 rfl)
theorem d117_94 : decode (pz_b 117) 94 = .ok (.iastore, 1) := by decide +kernel
theorem q117_94 {dA : Nat → ClassId} {d : Nat} {st : List Value} {f : pz_F} {Q : Option Value → pz_F → Prop} {v0 v1 : Value} {x i : Int32} {a : Nat} : pz_R dA d 117 94 [v0, v1] (.int x :: .int i :: .ref a :: st) f Q = pz_o (pz_is (dA 0) f a i x) (fun f' => pz_R dA d 117 95 [v0, v1] st f' Q) := pz_gis d117_94
theorem d117_95 : decode (pz_b 117) 95 = .ok (.iinc 1 1, 3) := by decide +kernel
theorem q117_95 {dA : Nat → ClassId} {d : Nat} {st : List Value} {f : pz_F} {Q : Option Value → pz_F → Prop} {v0 : Value} {x : Int32} : pz_R dA d 117 95 [v0, .int x] st f Q = pz_R dA d 117 98 [v0, .int (x + 1)] st f Q := pz_go (pz_so d117_95 rfl)
theorem d117_98 : decode (pz_b 117) 98 = .ok (.goto (-44), 3) := by decide +kernel
theorem q117_98 {dA : Nat → ClassId} {d : Nat} {st : List Value} {f : pz_F} {Q : Option Value → pz_F → Prop} {v0 v1 : Value} : pz_R dA d 117 98 [v0, v1] st f Q = pz_R dA d 117 54 [v0, v1] st f Q := pz_go (pz_so d117_98 rfl)
theorem d117_101 : decode (pz_b 117) 101 = .ok (.iconst 0, 1) := by decide +kernel
theorem q117_101 {dA : Nat → ClassId} {d : Nat} {st : List Value} {f : pz_F} {Q : Option Value → pz_F → Prop} {v0 v1 : Value} : pz_R dA d 117 101 [v0, v1] st f Q = pz_R dA d 117 102 [v0, v1] (.int 0 :: st) f Q := pz_go (pz_so d117_101 rfl)
theorem d117_102 : decode (pz_b 117) 102 = .ok (.istore_n 1, 1) := by decide +kernel
theorem q117_102 {dA : Nat → ClassId} {d : Nat} {st : List Value} {f : pz_F} {Q : Option Value → pz_F → Prop} {v0 v1 : Value} {x : Int32} : pz_R dA d 117 102 [v0, v1] (.int x :: st) f Q = pz_R dA d 117 103 [v0, .int x] st f Q := pz_go (pz_so d117_102 rfl)
theorem d117_103 : decode (pz_b 117) 103 = .ok (.iload_n 1, 1) := by decide +kernel
theorem q117_103 {dA : Nat → ClassId} {d : Nat} {st : List Value} {f : pz_F} {Q : Option Value → pz_F → Prop} {v0 : Value} {x : Int32} : pz_R dA d 117 103 [v0, .int x] st f Q = pz_R dA d 117 104 [v0, .int x] (.int x :: st) f Q := pz_go (pz_so d117_103 rfl)
theorem d117_104 : decode (pz_b 117) 104 = .ok (.iconst 2, 1) := by decide +kernel
theorem q117_104 {dA : Nat → ClassId} {d : Nat} {st : List Value} {f : pz_F} {Q : Option Value → pz_F → Prop} {v0 v1 : Value} : pz_R dA d 117 104 [v0, v1] st f Q = pz_R dA d 117 105 [v0, v1] (.int 2 :: st) f Q := pz_go (pz_so d117_104 rfl)
theorem d117_105 : decode (pz_b 117) 105 = .ok (.if_icmp .ge 23, 3) := by decide +kernel
theorem q117_105 {dA : Nat → ClassId} {d : Nat} {st : List Value} {f : pz_F} {Q : Option Value → pz_F → Prop} {v0 v1 : Value} {x y : Int32} : pz_R dA d 117 105 [v0, v1] (.int y :: .int x :: st) f Q = (if y ≤ x then pz_R dA d 117 128 [v0, v1] st f Q else pz_R dA d 117 108 [v0, v1] st f Q) := pz_gjn .ge d117_105 rfl
theorem d117_108 : decode (pz_b 117) 108 = .ok (.aload_n 0, 1) := by decide +kernel
theorem q117_108 {dA : Nat → ClassId} {d : Nat} {st : List Value} {f : pz_F} {Q : Option Value → pz_F → Prop} {v1 : Value} {x : Nat} : pz_R dA d 117 108 [.ref x, v1] st f Q = pz_R dA d 117 109 [.ref x, v1] (.ref x :: st) f Q := pz_go (pz_so d117_108 rfl)
theorem d117_109 : decode (pz_b 117) 109 = .ok (.getfield 13, 3) := by decide +kernel
theorem q117_109 {dA : Nat → ClassId} {d : Nat} {st : List Value} {f : pz_F} {Q : Option Value → pz_F → Prop} {v0 v1 : Value} {a : Nat} : pz_R dA d 117 109 [v0, v1] (.ref a :: st) f Q = pz_o (pz_gf f a 6 2) (fun v => pz_R dA d 117 112 [v0, v1] (v :: st) f Q) := pz_gg d117_109 rfl
theorem d117_112 : decode (pz_b 117) 112 = .ok (.iload_n 1, 1) := by decide +kernel
theorem q117_112 {dA : Nat → ClassId} {d : Nat} {st : List Value} {f : pz_F} {Q : Option Value → pz_F → Prop} {v0 : Value} {x : Int32} : pz_R dA d 117 112 [v0, .int x] st f Q = pz_R dA d 117 113 [v0, .int x] (.int x :: st) f Q := pz_go (pz_so d117_112 rfl)
theorem d117_113 : decode (pz_b 117) 113 = .ok (.iaload, 1) := by decide +kernel
theorem q117_113 {dA : Nat → ClassId} {d : Nat} {st : List Value} {f : pz_F} {Q : Option Value → pz_F → Prop} {v0 v1 : Value} {i : Int32} {a : Nat} : pz_R dA d 117 113 [v0, v1] (.int i :: .ref a :: st) f Q = pz_o (pz_il (dA 0) f a i) (fun x => pz_R dA d 117 114 [v0, v1] (.int x :: st) f Q) := pz_gil d117_113
theorem d117_114 : decode (pz_b 117) 114 = .ok (.ifCond .eq 8, 3) := by decide +kernel
theorem q117_114 {dA : Nat → ClassId} {d : Nat} {st : List Value} {f : pz_F} {Q : Option Value → pz_F → Prop} {v0 v1 : Value} {x : Int32} : pz_R dA d 117 114 [v0, v1] (.int x :: st) f Q = (if x = 0 then pz_R dA d 117 122 [v0, v1] st f Q else pz_R dA d 117 117 [v0, v1] st f Q) := pz_gj1 .eq d117_114 rfl
theorem d117_117 : decode (pz_b 117) 117 = .ok (.aload_n 0, 1) := by decide +kernel
theorem q117_117 {dA : Nat → ClassId} {d : Nat} {st : List Value} {f : pz_F} {Q : Option Value → pz_F → Prop} {v1 : Value} {x : Nat} : pz_R dA d 117 117 [.ref x, v1] st f Q = pz_R dA d 117 118 [.ref x, v1] (.ref x :: st) f Q := pz_go (pz_so d117_117 rfl)
theorem d117_118 : decode (pz_b 117) 118 = .ok (.iload_n 1, 1) := by decide +kernel
theorem q117_118 {dA : Nat → ClassId} {d : Nat} {st : List Value} {f : pz_F} {Q : Option Value → pz_F → Prop} {v0 : Value} {x : Int32} : pz_R dA d 117 118 [v0, .int x] st f Q = pz_R dA d 117 119 [v0, .int x] (.int x :: st) f Q := pz_go (pz_so d117_118 rfl)
theorem d117_119 : decode (pz_b 117) 119 = .ok (.invokevirtual 169, 3) := by decide +kernel
theorem q117_119 {dA : Nat → ClassId} {d : Nat} {st : List Value} {f : pz_F} {Q : Option Value → pz_F → Prop} {v0 v1 : Value} {c0 : Int32} {b : Nat} (hr : st.length ≤ 4) : pz_R dA (d + 1) 117 119 [v0, v1] (.int c0 :: .ref b :: st) f Q = pz_o (pz_gu f b 6) (fun _ => pz_C dA d 116 [.ref b, .int c0] f (fun r f' => pz_R dA (d + 1) 117 122 [v0, v1] (r.toList ++ st) f' Q)) := pz_gcv (As := [.int c0]) d117_119 rfl rfl rfl hr
theorem d117_122 : decode (pz_b 117) 122 = .ok (.iinc 1 1, 3) := by decide +kernel
theorem q117_122 {dA : Nat → ClassId} {d : Nat} {st : List Value} {f : pz_F} {Q : Option Value → pz_F → Prop} {v0 : Value} {x : Int32} : pz_R dA d 117 122 [v0, .int x] st f Q = pz_R dA d 117 125 [v0, .int (x + 1)] st f Q := pz_go (pz_so d117_122 rfl)
theorem d117_125 : decode (pz_b 117) 125 = .ok (.goto (-22), 3) := by decide +kernel
theorem q117_125 {dA : Nat → ClassId} {d : Nat} {st : List Value} {f : pz_F} {Q : Option Value → pz_F → Prop} {v0 v1 : Value} : pz_R dA d 117 125 [v0, v1] st f Q = pz_R dA d 117 103 [v0, v1] st f Q := pz_go (pz_so d117_125 rfl)
theorem d117_128 : decode (pz_b 117) 128 = .ok (.aload_n 0, 1) := by decide +kernel
theorem q117_128 {dA : Nat → ClassId} {d : Nat} {st : List Value} {f : pz_F} {Q : Option Value → pz_F → Prop} {v1 : Value} {x : Nat} : pz_R dA d 117 128 [.ref x, v1] st f Q = pz_R dA d 117 129 [.ref x, v1] (.ref x :: st) f Q := pz_go (pz_so d117_128 rfl)
theorem d117_129 : decode (pz_b 117) 129 = .ok (.getfield 78, 3) := by decide +kernel
theorem q117_129 {dA : Nat → ClassId} {d : Nat} {st : List Value} {f : pz_F} {Q : Option Value → pz_F → Prop} {v0 v1 : Value} {a : Nat} : pz_R dA d 117 129 [v0, v1] (.ref a :: st) f Q = pz_o (pz_gf f a 6 0) (fun v => pz_R dA d 117 132 [v0, v1] (v :: st) f Q) := pz_gg d117_129 rfl
theorem d117_132 : decode (pz_b 117) 132 = .ok (.ireturn, 1) := by decide +kernel
theorem q117_132 {dA : Nat → ClassId} {d : Nat} {f : pz_F} {Q : Option Value → pz_F → Prop} {v0 v1 : Value} {x : Int32} : pz_R dA d 117 132 [v0, v1] [.int x] f Q = Q (some (.int x)) f := pz_gri d117_132 rfl rfl
/-! X_ask (II)Z -/
theorem e118 {dA : Nat → ClassId} {d : Nat} {f : pz_F} {Q : Option Value → pz_F → Prop} {a0 : Nat} {a1 : Int32} {a2 : Int32} : pz_C dA d 118 [.ref a0, .int a1, .int a2] f Q = pz_R dA d 118 0 [.ref a0, .int a1, .int a2] [] f Q := rfl
theorem d118_0 : decode (pz_b 118) 0 = .ok (.iload_n 1, 1) := by decide +kernel
theorem q118_0 {dA : Nat → ClassId} {d : Nat} {st : List Value} {f : pz_F} {Q : Option Value → pz_F → Prop} {v0 v2 : Value} {x : Int32} : pz_R dA d 118 0 [v0, .int x, v2] st f Q = pz_R dA d 118 1 [v0, .int x, v2] (.int x :: st) f Q := pz_go (pz_so d118_0 rfl)
theorem d118_1 : decode (pz_b 118) 1 = .ok (.invokestatic 172, 3) := by decide +kernel
theorem q118_1 {dA : Nat → ClassId} {d : Nat} {st : List Value} {f : pz_F} {Q : Option Value → pz_F → Prop} {v0 v1 v2 : Value} {c0 : Int32} (hr : st.length ≤ 4) : pz_R dA (d + 1) 118 1 [v0, v1, v2] (.int c0 :: st) f Q = pz_C dA d 88 [.int c0] f (fun r f' => pz_R dA (d + 1) 118 4 [v0, v1, v2] (r.toList ++ st) f' Q) := pz_gcs (As := [.int c0]) d118_1 rfl rfl rfl hr
theorem d118_4 : decode (pz_b 118) 4 = .ok (.ifCond .eq 25, 3) := by decide +kernel
theorem q118_4 {dA : Nat → ClassId} {d : Nat} {st : List Value} {f : pz_F} {Q : Option Value → pz_F → Prop} {v0 v1 v2 : Value} {x : Int32} : pz_R dA d 118 4 [v0, v1, v2] (.int x :: st) f Q = (if x = 0 then pz_R dA d 118 29 [v0, v1, v2] st f Q else pz_R dA d 118 7 [v0, v1, v2] st f Q) := pz_gj1 .eq d118_4 rfl
theorem d118_7 : decode (pz_b 118) 7 = .ok (.iload_n 2, 1) := by decide +kernel
theorem q118_7 {dA : Nat → ClassId} {d : Nat} {st : List Value} {f : pz_F} {Q : Option Value → pz_F → Prop} {v0 v1 : Value} {x : Int32} : pz_R dA d 118 7 [v0, v1, .int x] st f Q = pz_R dA d 118 8 [v0, v1, .int x] (.int x :: st) f Q := pz_go (pz_so d118_7 rfl)
theorem d118_8 : decode (pz_b 118) 8 = .ok (.invokestatic 175, 3) := by decide +kernel
theorem q118_8 {dA : Nat → ClassId} {d : Nat} {st : List Value} {f : pz_F} {Q : Option Value → pz_F → Prop} {v0 v1 v2 : Value} {c0 : Int32} (hr : st.length ≤ 4) : pz_R dA (d + 1) 118 8 [v0, v1, v2] (.int c0 :: st) f Q = pz_C dA d 87 [.int c0] f (fun r f' => pz_R dA (d + 1) 118 11 [v0, v1, v2] (r.toList ++ st) f' Q) := pz_gcs (As := [.int c0]) d118_8 rfl rfl rfl hr
theorem d118_11 : decode (pz_b 118) 11 = .ok (.ifCond .eq 18, 3) := by decide +kernel
theorem q118_11 {dA : Nat → ClassId} {d : Nat} {st : List Value} {f : pz_F} {Q : Option Value → pz_F → Prop} {v0 v1 v2 : Value} {x : Int32} : pz_R dA d 118 11 [v0, v1, v2] (.int x :: st) f Q = (if x = 0 then pz_R dA d 118 29 [v0, v1, v2] st f Q else pz_R dA d 118 14 [v0, v1, v2] st f Q) := pz_gj1 .eq d118_11 rfl
theorem d118_14 : decode (pz_b 118) 14 = .ok (.aload_n 0, 1) := by decide +kernel
theorem q118_14 {dA : Nat → ClassId} {d : Nat} {st : List Value} {f : pz_F} {Q : Option Value → pz_F → Prop} {v1 v2 : Value} {x : Nat} : pz_R dA d 118 14 [.ref x, v1, v2] st f Q = pz_R dA d 118 15 [.ref x, v1, v2] (.ref x :: st) f Q := pz_go (pz_so d118_14 rfl)
theorem d118_15 : decode (pz_b 118) 15 = .ok (.getfield 78, 3) := by decide +kernel
theorem q118_15 {dA : Nat → ClassId} {d : Nat} {st : List Value} {f : pz_F} {Q : Option Value → pz_F → Prop} {v0 v1 v2 : Value} {a : Nat} : pz_R dA d 118 15 [v0, v1, v2] (.ref a :: st) f Q = pz_o (pz_gf f a 6 0) (fun v => pz_R dA d 118 18 [v0, v1, v2] (v :: st) f Q) := pz_gg d118_15 rfl
theorem d118_18 : decode (pz_b 118) 18 = .ok (.aload_n 0, 1) := by decide +kernel
theorem q118_18 {dA : Nat → ClassId} {d : Nat} {st : List Value} {f : pz_F} {Q : Option Value → pz_F → Prop} {v1 v2 : Value} {x : Nat} : pz_R dA d 118 18 [.ref x, v1, v2] st f Q = pz_R dA d 118 19 [.ref x, v1, v2] (.ref x :: st) f Q := pz_go (pz_so d118_18 rfl)
theorem d118_19 : decode (pz_b 118) 19 = .ok (.getfield 66, 3) := by decide +kernel
theorem q118_19 {dA : Nat → ClassId} {d : Nat} {st : List Value} {f : pz_F} {Q : Option Value → pz_F → Prop} {v0 v1 v2 : Value} {a : Nat} : pz_R dA d 118 19 [v0, v1, v2] (.ref a :: st) f Q = pz_o (pz_gf f a 6 19) (fun v => pz_R dA d 118 22 [v0, v1, v2] (v :: st) f Q) := pz_gg d118_19 rfl
theorem d118_22 : decode (pz_b 118) 22 = .ok (.iload_n 1, 1) := by decide +kernel
theorem q118_22 {dA : Nat → ClassId} {d : Nat} {st : List Value} {f : pz_F} {Q : Option Value → pz_F → Prop} {v0 v2 : Value} {x : Int32} : pz_R dA d 118 22 [v0, .int x, v2] st f Q = pz_R dA d 118 23 [v0, .int x, v2] (.int x :: st) f Q := pz_go (pz_so d118_22 rfl)
theorem d118_23 : decode (pz_b 118) 23 = .ok (.iaload, 1) := by decide +kernel
theorem q118_23 {dA : Nat → ClassId} {d : Nat} {st : List Value} {f : pz_F} {Q : Option Value → pz_F → Prop} {v0 v1 v2 : Value} {i : Int32} {a : Nat} : pz_R dA d 118 23 [v0, v1, v2] (.int i :: .ref a :: st) f Q = pz_o (pz_il (dA 0) f a i) (fun x => pz_R dA d 118 24 [v0, v1, v2] (.int x :: st) f Q) := pz_gil d118_23
theorem d118_24 : decode (pz_b 118) 24 = .ok (.isub, 1) := by decide +kernel
theorem q118_24 {dA : Nat → ClassId} {d : Nat} {st : List Value} {f : pz_F} {Q : Option Value → pz_F → Prop} {v0 v1 v2 : Value} {x y : Int32} : pz_R dA d 118 24 [v0, v1, v2] (.int y :: .int x :: st) f Q = pz_R dA d 118 25 [v0, v1, v2] (.int (x - y) :: st) f Q := pz_go (pz_so d118_24 rfl)
theorem d118_25 : decode (pz_b 118) 25 = .ok (.iconst 4, 1) := by decide +kernel
theorem q118_25 {dA : Nat → ClassId} {d : Nat} {st : List Value} {f : pz_F} {Q : Option Value → pz_F → Prop} {v0 v1 v2 : Value} : pz_R dA d 118 25 [v0, v1, v2] st f Q = pz_R dA d 118 26 [v0, v1, v2] (.int 4 :: st) f Q := pz_go (pz_so d118_25 rfl)
theorem d118_26 : decode (pz_b 118) 26 = .ok (.if_icmp .ge 5, 3) := by decide +kernel
theorem q118_26 {dA : Nat → ClassId} {d : Nat} {st : List Value} {f : pz_F} {Q : Option Value → pz_F → Prop} {v0 v1 v2 : Value} {x y : Int32} : pz_R dA d 118 26 [v0, v1, v2] (.int y :: .int x :: st) f Q = (if y ≤ x then pz_R dA d 118 31 [v0, v1, v2] st f Q else pz_R dA d 118 29 [v0, v1, v2] st f Q) := pz_gjn .ge d118_26 rfl
theorem d118_29 : decode (pz_b 118) 29 = .ok (.iconst 0, 1) := by decide +kernel
theorem q118_29 {dA : Nat → ClassId} {d : Nat} {st : List Value} {f : pz_F} {Q : Option Value → pz_F → Prop} {v0 v1 v2 : Value} : pz_R dA d 118 29 [v0, v1, v2] st f Q = pz_R dA d 118 30 [v0, v1, v2] (.int 0 :: st) f Q := pz_go (pz_so d118_29 rfl)
theorem d118_30 : decode (pz_b 118) 30 = .ok (.ireturn, 1) := by decide +kernel
theorem q118_30z {dA : Nat → ClassId} {d : Nat} {f : pz_F} {Q : Option Value → pz_F → Prop} {v0 v1 v2 : Value} : pz_R dA d 118 30 [v0, v1, v2] [.int 0] f Q = Q (some (.int 0)) f := pz_gri d118_30 rfl rfl
theorem q118_30o {dA : Nat → ClassId} {d : Nat} {f : pz_F} {Q : Option Value → pz_F → Prop} {v0 v1 v2 : Value} : pz_R dA d 118 30 [v0, v1, v2] [.int 1] f Q = Q (some (.int 1)) f := pz_gri d118_30 rfl rfl
theorem d118_31 : decode (pz_b 118) 31 = .ok (.aload_n 0, 1) := by decide +kernel
theorem q118_31 {dA : Nat → ClassId} {d : Nat} {st : List Value} {f : pz_F} {Q : Option Value → pz_F → Prop} {v1 v2 : Value} {x : Nat} : pz_R dA d 118 31 [.ref x, v1, v2] st f Q = pz_R dA d 118 32 [.ref x, v1, v2] (.ref x :: st) f Q := pz_go (pz_so d118_31 rfl)
theorem d118_32 : decode (pz_b 118) 32 = .ok (.getfield 60, 3) := by decide +kernel
theorem q118_32 {dA : Nat → ClassId} {d : Nat} {st : List Value} {f : pz_F} {Q : Option Value → pz_F → Prop} {v0 v1 v2 : Value} {a : Nat} : pz_R dA d 118 32 [v0, v1, v2] (.ref a :: st) f Q = pz_o (pz_gf f a 6 17) (fun v => pz_R dA d 118 35 [v0, v1, v2] (v :: st) f Q) := pz_gg d118_32 rfl
theorem d118_35 : decode (pz_b 118) 35 = .ok (.iload_n 1, 1) := by decide +kernel
theorem q118_35 {dA : Nat → ClassId} {d : Nat} {st : List Value} {f : pz_F} {Q : Option Value → pz_F → Prop} {v0 v2 : Value} {x : Int32} : pz_R dA d 118 35 [v0, .int x, v2] st f Q = pz_R dA d 118 36 [v0, .int x, v2] (.int x :: st) f Q := pz_go (pz_so d118_35 rfl)
theorem d118_36 : decode (pz_b 118) 36 = .ok (.dup2, 1) := by decide +kernel
theorem q118_36 {dA : Nat → ClassId} {d : Nat} {st : List Value} {f : pz_F} {Q : Option Value → pz_F → Prop} {v0 v1 v2 : Value} {x : Int32} {a : Nat} : pz_R dA d 118 36 [v0, v1, v2] (.int x :: .ref a :: st) f Q = pz_R dA d 118 37 [v0, v1, v2] (.int x :: .ref a :: .int x :: .ref a :: st) f Q := pz_go (pz_so d118_36 rfl)
theorem d118_37 : decode (pz_b 118) 37 = .ok (.iaload, 1) := by decide +kernel
theorem q118_37 {dA : Nat → ClassId} {d : Nat} {st : List Value} {f : pz_F} {Q : Option Value → pz_F → Prop} {v0 v1 v2 : Value} {i : Int32} {a : Nat} : pz_R dA d 118 37 [v0, v1, v2] (.int i :: .ref a :: st) f Q = pz_o (pz_il (dA 0) f a i) (fun x => pz_R dA d 118 38 [v0, v1, v2] (.int x :: st) f Q) := pz_gil d118_37
theorem d118_38 : decode (pz_b 118) 38 = .ok (.iconst 1, 1) := by decide +kernel
theorem q118_38 {dA : Nat → ClassId} {d : Nat} {st : List Value} {f : pz_F} {Q : Option Value → pz_F → Prop} {v0 v1 v2 : Value} : pz_R dA d 118 38 [v0, v1, v2] st f Q = pz_R dA d 118 39 [v0, v1, v2] (.int 1 :: st) f Q := pz_go (pz_so d118_38 rfl)
theorem d118_39 : decode (pz_b 118) 39 = .ok (.iadd, 1) := by decide +kernel
theorem q118_39 {dA : Nat → ClassId} {d : Nat} {st : List Value} {f : pz_F} {Q : Option Value → pz_F → Prop} {v0 v1 v2 : Value} {x y : Int32} : pz_R dA d 118 39 [v0, v1, v2] (.int y :: .int x :: st) f Q = pz_R dA d 118 40 [v0, v1, v2] (.int (x + y) :: st) f Q := pz_go (pz_so d118_39 rfl)
theorem d118_40 : decode (pz_b 118) 40 = .ok (.iastore, 1) := by decide +kernel
theorem q118_40 {dA : Nat → ClassId} {d : Nat} {st : List Value} {f : pz_F} {Q : Option Value → pz_F → Prop} {v0 v1 v2 : Value} {x i : Int32} {a : Nat} : pz_R dA d 118 40 [v0, v1, v2] (.int x :: .int i :: .ref a :: st) f Q = pz_o (pz_is (dA 0) f a i x) (fun f' => pz_R dA d 118 41 [v0, v1, v2] st f' Q) := pz_gis d118_40
theorem d118_41 : decode (pz_b 118) 41 = .ok (.aload_n 0, 1) := by decide +kernel
theorem q118_41 {dA : Nat → ClassId} {d : Nat} {st : List Value} {f : pz_F} {Q : Option Value → pz_F → Prop} {v1 v2 : Value} {x : Nat} : pz_R dA d 118 41 [.ref x, v1, v2] st f Q = pz_R dA d 118 42 [.ref x, v1, v2] (.ref x :: st) f Q := pz_go (pz_so d118_41 rfl)
theorem d118_42 : decode (pz_b 118) 42 = .ok (.getfield 63, 3) := by decide +kernel
theorem q118_42 {dA : Nat → ClassId} {d : Nat} {st : List Value} {f : pz_F} {Q : Option Value → pz_F → Prop} {v0 v1 v2 : Value} {a : Nat} : pz_R dA d 118 42 [v0, v1, v2] (.ref a :: st) f Q = pz_o (pz_gf f a 6 18) (fun v => pz_R dA d 118 45 [v0, v1, v2] (v :: st) f Q) := pz_gg d118_42 rfl
theorem d118_45 : decode (pz_b 118) 45 = .ok (.iload_n 1, 1) := by decide +kernel
theorem q118_45 {dA : Nat → ClassId} {d : Nat} {st : List Value} {f : pz_F} {Q : Option Value → pz_F → Prop} {v0 v2 : Value} {x : Int32} : pz_R dA d 118 45 [v0, .int x, v2] st f Q = pz_R dA d 118 46 [v0, .int x, v2] (.int x :: st) f Q := pz_go (pz_so d118_45 rfl)
theorem d118_46 : decode (pz_b 118) 46 = .ok (.iconst 1, 1) := by decide +kernel
theorem q118_46 {dA : Nat → ClassId} {d : Nat} {st : List Value} {f : pz_F} {Q : Option Value → pz_F → Prop} {v0 v1 v2 : Value} : pz_R dA d 118 46 [v0, v1, v2] st f Q = pz_R dA d 118 47 [v0, v1, v2] (.int 1 :: st) f Q := pz_go (pz_so d118_46 rfl)
theorem d118_47 : decode (pz_b 118) 47 = .ok (.bastore, 1) := by decide +kernel
theorem q118_47z {dA : Nat → ClassId} {d : Nat} {st : List Value} {f : pz_F} {Q : Option Value → pz_F → Prop} {v0 v1 v2 : Value} {i : Int32} {a : Nat} : pz_R dA d 118 47 [v0, v1, v2] (.int 0 :: .int i :: .ref a :: st) f Q = pz_o (pz_is (dA 1) f a i 0) (fun f' => pz_R dA d 118 48 [v0, v1, v2] st f' Q) := pz_gzs d118_47 rfl
theorem q118_47o {dA : Nat → ClassId} {d : Nat} {st : List Value} {f : pz_F} {Q : Option Value → pz_F → Prop} {v0 v1 v2 : Value} {i : Int32} {a : Nat} : pz_R dA d 118 47 [v0, v1, v2] (.int 1 :: .int i :: .ref a :: st) f Q = pz_o (pz_is (dA 1) f a i 1) (fun f' => pz_R dA d 118 48 [v0, v1, v2] st f' Q) := pz_gzs d118_47 rfl
theorem d118_48 : decode (pz_b 118) 48 = .ok (.aload_n 0, 1) := by decide +kernel
theorem q118_48 {dA : Nat → ClassId} {d : Nat} {st : List Value} {f : pz_F} {Q : Option Value → pz_F → Prop} {v1 v2 : Value} {x : Nat} : pz_R dA d 118 48 [.ref x, v1, v2] st f Q = pz_R dA d 118 49 [.ref x, v1, v2] (.ref x :: st) f Q := pz_go (pz_so d118_48 rfl)
theorem d118_49 : decode (pz_b 118) 49 = .ok (.iconst 0, 1) := by decide +kernel
theorem q118_49 {dA : Nat → ClassId} {d : Nat} {st : List Value} {f : pz_F} {Q : Option Value → pz_F → Prop} {v0 v1 v2 : Value} : pz_R dA d 118 49 [v0, v1, v2] st f Q = pz_R dA d 118 50 [v0, v1, v2] (.int 0 :: st) f Q := pz_go (pz_so d118_49 rfl)
theorem d118_50 : decode (pz_b 118) 50 = .ok (.iload_n 1, 1) := by decide +kernel
theorem q118_50 {dA : Nat → ClassId} {d : Nat} {st : List Value} {f : pz_F} {Q : Option Value → pz_F → Prop} {v0 v2 : Value} {x : Int32} : pz_R dA d 118 50 [v0, .int x, v2] st f Q = pz_R dA d 118 51 [v0, .int x, v2] (.int x :: st) f Q := pz_go (pz_so d118_50 rfl)
theorem d118_51 : decode (pz_b 118) 51 = .ok (.iload_n 2, 1) := by decide +kernel
theorem q118_51 {dA : Nat → ClassId} {d : Nat} {st : List Value} {f : pz_F} {Q : Option Value → pz_F → Prop} {v0 v1 : Value} {x : Int32} : pz_R dA d 118 51 [v0, v1, .int x] st f Q = pz_R dA d 118 52 [v0, v1, .int x] (.int x :: st) f Q := pz_go (pz_so d118_51 rfl)
theorem d118_52 : decode (pz_b 118) 52 = .ok (.aload_n 0, 1) := by decide +kernel
theorem q118_52 {dA : Nat → ClassId} {d : Nat} {st : List Value} {f : pz_F} {Q : Option Value → pz_F → Prop} {v1 v2 : Value} {x : Nat} : pz_R dA d 118 52 [.ref x, v1, v2] st f Q = pz_R dA d 118 53 [.ref x, v1, v2] (.ref x :: st) f Q := pz_go (pz_so d118_52 rfl)
theorem d118_53 : decode (pz_b 118) 53 = .ok (.getfield 60, 3) := by decide +kernel
theorem q118_53 {dA : Nat → ClassId} {d : Nat} {st : List Value} {f : pz_F} {Q : Option Value → pz_F → Prop} {v0 v1 v2 : Value} {a : Nat} : pz_R dA d 118 53 [v0, v1, v2] (.ref a :: st) f Q = pz_o (pz_gf f a 6 17) (fun v => pz_R dA d 118 56 [v0, v1, v2] (v :: st) f Q) := pz_gg d118_53 rfl
theorem d118_56 : decode (pz_b 118) 56 = .ok (.iload_n 1, 1) := by decide +kernel
theorem q118_56 {dA : Nat → ClassId} {d : Nat} {st : List Value} {f : pz_F} {Q : Option Value → pz_F → Prop} {v0 v2 : Value} {x : Int32} : pz_R dA d 118 56 [v0, .int x, v2] st f Q = pz_R dA d 118 57 [v0, .int x, v2] (.int x :: st) f Q := pz_go (pz_so d118_56 rfl)
theorem d118_57 : decode (pz_b 118) 57 = .ok (.iaload, 1) := by decide +kernel
theorem q118_57 {dA : Nat → ClassId} {d : Nat} {st : List Value} {f : pz_F} {Q : Option Value → pz_F → Prop} {v0 v1 v2 : Value} {i : Int32} {a : Nat} : pz_R dA d 118 57 [v0, v1, v2] (.int i :: .ref a :: st) f Q = pz_o (pz_il (dA 0) f a i) (fun x => pz_R dA d 118 58 [v0, v1, v2] (.int x :: st) f Q) := pz_gil d118_57
theorem d118_58 : decode (pz_b 118) 58 = .ok (.iconst 0, 1) := by decide +kernel
theorem q118_58 {dA : Nat → ClassId} {d : Nat} {st : List Value} {f : pz_F} {Q : Option Value → pz_F → Prop} {v0 v1 v2 : Value} : pz_R dA d 118 58 [v0, v1, v2] st f Q = pz_R dA d 118 59 [v0, v1, v2] (.int 0 :: st) f Q := pz_go (pz_so d118_58 rfl)
theorem d118_59 : decode (pz_b 118) 59 = .ok (.invokevirtual 100, 3) := by decide +kernel
theorem q118_59 {dA : Nat → ClassId} {d : Nat} {st : List Value} {f : pz_F} {Q : Option Value → pz_F → Prop} {v0 v1 v2 : Value} {c0 : Int32} {c1 : Int32} {c2 : Int32} {c3 : Int32} {c4 : Int32} {b : Nat} (hr : st.length ≤ 4) : pz_R dA (d + 1) 118 59 [v0, v1, v2] (.int c4 :: .int c3 :: .int c2 :: .int c1 :: .int c0 :: .ref b :: st) f Q = pz_o (pz_gu f b 6) (fun _ => pz_C dA d 94 [.ref b, .int c0, .int c1, .int c2, .int c3, .int c4] f (fun r f' => pz_R dA (d + 1) 118 62 [v0, v1, v2] (r.toList ++ st) f' Q)) := pz_gcv (As := [.int c0, .int c1, .int c2, .int c3, .int c4]) d118_59 rfl rfl rfl hr
theorem d118_62 : decode (pz_b 118) 62 = .ok (.aload_n 0, 1) := by decide +kernel
theorem q118_62 {dA : Nat → ClassId} {d : Nat} {st : List Value} {f : pz_F} {Q : Option Value → pz_F → Prop} {v1 v2 : Value} {x : Nat} : pz_R dA d 118 62 [.ref x, v1, v2] st f Q = pz_R dA d 118 63 [.ref x, v1, v2] (.ref x :: st) f Q := pz_go (pz_so d118_62 rfl)
theorem d118_63 : decode (pz_b 118) 63 = .ok (.invokevirtual 104, 3) := by decide +kernel
theorem q118_63 {dA : Nat → ClassId} {d : Nat} {st : List Value} {f : pz_F} {Q : Option Value → pz_F → Prop} {v0 v1 v2 : Value} {b : Nat} (hr : st.length ≤ 4) : pz_R dA (d + 1) 118 63 [v0, v1, v2] (.ref b :: st) f Q = pz_o (pz_gu f b 6) (fun _ => pz_C dA d 95 [.ref b] f (fun r f' => pz_R dA (d + 1) 118 66 [v0, v1, v2] (r.toList ++ st) f' Q)) := pz_gcv (As := []) d118_63 rfl rfl rfl hr
theorem d118_66 : decode (pz_b 118) 66 = .ok (.iconst 1, 1) := by decide +kernel
theorem q118_66 {dA : Nat → ClassId} {d : Nat} {st : List Value} {f : pz_F} {Q : Option Value → pz_F → Prop} {v0 v1 v2 : Value} : pz_R dA d 118 66 [v0, v1, v2] st f Q = pz_R dA d 118 67 [v0, v1, v2] (.int 1 :: st) f Q := pz_go (pz_so d118_66 rfl)
theorem d118_67 : decode (pz_b 118) 67 = .ok (.ireturn, 1) := by decide +kernel
theorem q118_67z {dA : Nat → ClassId} {d : Nat} {f : pz_F} {Q : Option Value → pz_F → Prop} {v0 v1 v2 : Value} : pz_R dA d 118 67 [v0, v1, v2] [.int 0] f Q = Q (some (.int 0)) f := pz_gri d118_67 rfl rfl
theorem q118_67o {dA : Nat → ClassId} {d : Nat} {f : pz_F} {Q : Option Value → pz_F → Prop} {v0 v1 v2 : Value} : pz_R dA d 118 67 [v0, v1, v2] [.int 1] f Q = Q (some (.int 1)) f := pz_gri d118_67 rfl rfl
/-! X_release (II)Z -/
theorem e119 {dA : Nat → ClassId} {d : Nat} {f : pz_F} {Q : Option Value → pz_F → Prop} {a0 : Nat} {a1 : Int32} {a2 : Int32} : pz_C dA d 119 [.ref a0, .int a1, .int a2] f Q = pz_R dA d 119 0 [.ref a0, .int a1, .int a2] [] f Q := rfl
theorem d119_0 : decode (pz_b 119) 0 = .ok (.iload_n 1, 1) := by decide +kernel
theorem q119_0 {dA : Nat → ClassId} {d : Nat} {st : List Value} {f : pz_F} {Q : Option Value → pz_F → Prop} {v0 v2 : Value} {x : Int32} : pz_R dA d 119 0 [v0, .int x, v2] st f Q = pz_R dA d 119 1 [v0, .int x, v2] (.int x :: st) f Q := pz_go (pz_so d119_0 rfl)
theorem d119_1 : decode (pz_b 119) 1 = .ok (.invokestatic 172, 3) := by decide +kernel
theorem q119_1 {dA : Nat → ClassId} {d : Nat} {st : List Value} {f : pz_F} {Q : Option Value → pz_F → Prop} {v0 v1 v2 : Value} {c0 : Int32} (hr : st.length ≤ 4) : pz_R dA (d + 1) 119 1 [v0, v1, v2] (.int c0 :: st) f Q = pz_C dA d 88 [.int c0] f (fun r f' => pz_R dA (d + 1) 119 4 [v0, v1, v2] (r.toList ++ st) f' Q) := pz_gcs (As := [.int c0]) d119_1 rfl rfl rfl hr
theorem d119_4 : decode (pz_b 119) 4 = .ok (.ifCond .eq 19, 3) := by decide +kernel
theorem q119_4 {dA : Nat → ClassId} {d : Nat} {st : List Value} {f : pz_F} {Q : Option Value → pz_F → Prop} {v0 v1 v2 : Value} {x : Int32} : pz_R dA d 119 4 [v0, v1, v2] (.int x :: st) f Q = (if x = 0 then pz_R dA d 119 23 [v0, v1, v2] st f Q else pz_R dA d 119 7 [v0, v1, v2] st f Q) := pz_gj1 .eq d119_4 rfl
theorem d119_7 : decode (pz_b 119) 7 = .ok (.iload_n 2, 1) := by decide +kernel
theorem q119_7 {dA : Nat → ClassId} {d : Nat} {st : List Value} {f : pz_F} {Q : Option Value → pz_F → Prop} {v0 v1 : Value} {x : Int32} : pz_R dA d 119 7 [v0, v1, .int x] st f Q = pz_R dA d 119 8 [v0, v1, .int x] (.int x :: st) f Q := pz_go (pz_so d119_7 rfl)
theorem d119_8 : decode (pz_b 119) 8 = .ok (.invokestatic 175, 3) := by decide +kernel
theorem q119_8 {dA : Nat → ClassId} {d : Nat} {st : List Value} {f : pz_F} {Q : Option Value → pz_F → Prop} {v0 v1 v2 : Value} {c0 : Int32} (hr : st.length ≤ 4) : pz_R dA (d + 1) 119 8 [v0, v1, v2] (.int c0 :: st) f Q = pz_C dA d 87 [.int c0] f (fun r f' => pz_R dA (d + 1) 119 11 [v0, v1, v2] (r.toList ++ st) f' Q) := pz_gcs (As := [.int c0]) d119_8 rfl rfl rfl hr
theorem d119_11 : decode (pz_b 119) 11 = .ok (.ifCond .eq 12, 3) := by decide +kernel
theorem q119_11 {dA : Nat → ClassId} {d : Nat} {st : List Value} {f : pz_F} {Q : Option Value → pz_F → Prop} {v0 v1 v2 : Value} {x : Int32} : pz_R dA d 119 11 [v0, v1, v2] (.int x :: st) f Q = (if x = 0 then pz_R dA d 119 23 [v0, v1, v2] st f Q else pz_R dA d 119 14 [v0, v1, v2] st f Q) := pz_gj1 .eq d119_11 rfl
theorem d119_14 : decode (pz_b 119) 14 = .ok (.aload_n 0, 1) := by decide +kernel
theorem q119_14 {dA : Nat → ClassId} {d : Nat} {st : List Value} {f : pz_F} {Q : Option Value → pz_F → Prop} {v1 v2 : Value} {x : Nat} : pz_R dA d 119 14 [.ref x, v1, v2] st f Q = pz_R dA d 119 15 [.ref x, v1, v2] (.ref x :: st) f Q := pz_go (pz_so d119_14 rfl)
theorem d119_15 : decode (pz_b 119) 15 = .ok (.getfield 54, 3) := by decide +kernel
theorem q119_15 {dA : Nat → ClassId} {d : Nat} {st : List Value} {f : pz_F} {Q : Option Value → pz_F → Prop} {v0 v1 v2 : Value} {a : Nat} : pz_R dA d 119 15 [v0, v1, v2] (.ref a :: st) f Q = pz_o (pz_gf f a 6 15) (fun v => pz_R dA d 119 18 [v0, v1, v2] (v :: st) f Q) := pz_gg d119_15 rfl
theorem d119_18 : decode (pz_b 119) 18 = .ok (.iload_n 1, 1) := by decide +kernel
theorem q119_18 {dA : Nat → ClassId} {d : Nat} {st : List Value} {f : pz_F} {Q : Option Value → pz_F → Prop} {v0 v2 : Value} {x : Int32} : pz_R dA d 119 18 [v0, .int x, v2] st f Q = pz_R dA d 119 19 [v0, .int x, v2] (.int x :: st) f Q := pz_go (pz_so d119_18 rfl)
theorem d119_19 : decode (pz_b 119) 19 = .ok (.iaload, 1) := by decide +kernel
theorem q119_19 {dA : Nat → ClassId} {d : Nat} {st : List Value} {f : pz_F} {Q : Option Value → pz_F → Prop} {v0 v1 v2 : Value} {i : Int32} {a : Nat} : pz_R dA d 119 19 [v0, v1, v2] (.int i :: .ref a :: st) f Q = pz_o (pz_il (dA 0) f a i) (fun x => pz_R dA d 119 20 [v0, v1, v2] (.int x :: st) f Q) := pz_gil d119_19
theorem d119_20 : decode (pz_b 119) 20 = .ok (.ifCond .ge 5, 3) := by decide +kernel
theorem q119_20 {dA : Nat → ClassId} {d : Nat} {st : List Value} {f : pz_F} {Q : Option Value → pz_F → Prop} {v0 v1 v2 : Value} {x : Int32} : pz_R dA d 119 20 [v0, v1, v2] (.int x :: st) f Q = (if 0 ≤ x then pz_R dA d 119 25 [v0, v1, v2] st f Q else pz_R dA d 119 23 [v0, v1, v2] st f Q) := pz_gj1 .ge d119_20 rfl
theorem d119_23 : decode (pz_b 119) 23 = .ok (.iconst 0, 1) := by decide +kernel
theorem q119_23 {dA : Nat → ClassId} {d : Nat} {st : List Value} {f : pz_F} {Q : Option Value → pz_F → Prop} {v0 v1 v2 : Value} : pz_R dA d 119 23 [v0, v1, v2] st f Q = pz_R dA d 119 24 [v0, v1, v2] (.int 0 :: st) f Q := pz_go (pz_so d119_23 rfl)
theorem d119_24 : decode (pz_b 119) 24 = .ok (.ireturn, 1) := by decide +kernel
theorem q119_24z {dA : Nat → ClassId} {d : Nat} {f : pz_F} {Q : Option Value → pz_F → Prop} {v0 v1 v2 : Value} : pz_R dA d 119 24 [v0, v1, v2] [.int 0] f Q = Q (some (.int 0)) f := pz_gri d119_24 rfl rfl
theorem q119_24o {dA : Nat → ClassId} {d : Nat} {f : pz_F} {Q : Option Value → pz_F → Prop} {v0 v1 v2 : Value} : pz_R dA d 119 24 [v0, v1, v2] [.int 1] f Q = Q (some (.int 1)) f := pz_gri d119_24 rfl rfl
theorem d119_25 : decode (pz_b 119) 25 = .ok (.aload_n 0, 1) := by decide +kernel
theorem q119_25 {dA : Nat → ClassId} {d : Nat} {st : List Value} {f : pz_F} {Q : Option Value → pz_F → Prop} {v1 v2 : Value} {x : Nat} : pz_R dA d 119 25 [.ref x, v1, v2] st f Q = pz_R dA d 119 26 [.ref x, v1, v2] (.ref x :: st) f Q := pz_go (pz_so d119_25 rfl)
theorem d119_26 : decode (pz_b 119) 26 = .ok (.iconst 3, 1) := by decide +kernel
theorem q119_26 {dA : Nat → ClassId} {d : Nat} {st : List Value} {f : pz_F} {Q : Option Value → pz_F → Prop} {v0 v1 v2 : Value} : pz_R dA d 119 26 [v0, v1, v2] st f Q = pz_R dA d 119 27 [v0, v1, v2] (.int 3 :: st) f Q := pz_go (pz_so d119_26 rfl)
theorem d119_27 : decode (pz_b 119) 27 = .ok (.iload_n 1, 1) := by decide +kernel
theorem q119_27 {dA : Nat → ClassId} {d : Nat} {st : List Value} {f : pz_F} {Q : Option Value → pz_F → Prop} {v0 v2 : Value} {x : Int32} : pz_R dA d 119 27 [v0, .int x, v2] st f Q = pz_R dA d 119 28 [v0, .int x, v2] (.int x :: st) f Q := pz_go (pz_so d119_27 rfl)
theorem d119_28 : decode (pz_b 119) 28 = .ok (.iload_n 2, 1) := by decide +kernel
theorem q119_28 {dA : Nat → ClassId} {d : Nat} {st : List Value} {f : pz_F} {Q : Option Value → pz_F → Prop} {v0 v1 : Value} {x : Int32} : pz_R dA d 119 28 [v0, v1, .int x] st f Q = pz_R dA d 119 29 [v0, v1, .int x] (.int x :: st) f Q := pz_go (pz_so d119_28 rfl)
theorem d119_29 : decode (pz_b 119) 29 = .ok (.aload_n 0, 1) := by decide +kernel
theorem q119_29 {dA : Nat → ClassId} {d : Nat} {st : List Value} {f : pz_F} {Q : Option Value → pz_F → Prop} {v1 v2 : Value} {x : Nat} : pz_R dA d 119 29 [.ref x, v1, v2] st f Q = pz_R dA d 119 30 [.ref x, v1, v2] (.ref x :: st) f Q := pz_go (pz_so d119_29 rfl)
theorem d119_30 : decode (pz_b 119) 30 = .ok (.getfield 54, 3) := by decide +kernel
theorem q119_30 {dA : Nat → ClassId} {d : Nat} {st : List Value} {f : pz_F} {Q : Option Value → pz_F → Prop} {v0 v1 v2 : Value} {a : Nat} : pz_R dA d 119 30 [v0, v1, v2] (.ref a :: st) f Q = pz_o (pz_gf f a 6 15) (fun v => pz_R dA d 119 33 [v0, v1, v2] (v :: st) f Q) := pz_gg d119_30 rfl
theorem d119_33 : decode (pz_b 119) 33 = .ok (.iload_n 1, 1) := by decide +kernel
theorem q119_33 {dA : Nat → ClassId} {d : Nat} {st : List Value} {f : pz_F} {Q : Option Value → pz_F → Prop} {v0 v2 : Value} {x : Int32} : pz_R dA d 119 33 [v0, .int x, v2] st f Q = pz_R dA d 119 34 [v0, .int x, v2] (.int x :: st) f Q := pz_go (pz_so d119_33 rfl)
theorem d119_34 : decode (pz_b 119) 34 = .ok (.iaload, 1) := by decide +kernel
theorem q119_34 {dA : Nat → ClassId} {d : Nat} {st : List Value} {f : pz_F} {Q : Option Value → pz_F → Prop} {v0 v1 v2 : Value} {i : Int32} {a : Nat} : pz_R dA d 119 34 [v0, v1, v2] (.int i :: .ref a :: st) f Q = pz_o (pz_il (dA 0) f a i) (fun x => pz_R dA d 119 35 [v0, v1, v2] (.int x :: st) f Q) := pz_gil d119_34
theorem d119_35 : decode (pz_b 119) 35 = .ok (.iconst 0, 1) := by decide +kernel
theorem q119_35 {dA : Nat → ClassId} {d : Nat} {st : List Value} {f : pz_F} {Q : Option Value → pz_F → Prop} {v0 v1 v2 : Value} : pz_R dA d 119 35 [v0, v1, v2] st f Q = pz_R dA d 119 36 [v0, v1, v2] (.int 0 :: st) f Q := pz_go (pz_so d119_35 rfl)
theorem d119_36 : decode (pz_b 119) 36 = .ok (.invokevirtual 100, 3) := by decide +kernel
theorem q119_36 {dA : Nat → ClassId} {d : Nat} {st : List Value} {f : pz_F} {Q : Option Value → pz_F → Prop} {v0 v1 v2 : Value} {c0 : Int32} {c1 : Int32} {c2 : Int32} {c3 : Int32} {c4 : Int32} {b : Nat} (hr : st.length ≤ 4) : pz_R dA (d + 1) 119 36 [v0, v1, v2] (.int c4 :: .int c3 :: .int c2 :: .int c1 :: .int c0 :: .ref b :: st) f Q = pz_o (pz_gu f b 6) (fun _ => pz_C dA d 94 [.ref b, .int c0, .int c1, .int c2, .int c3, .int c4] f (fun r f' => pz_R dA (d + 1) 119 39 [v0, v1, v2] (r.toList ++ st) f' Q)) := pz_gcv (As := [.int c0, .int c1, .int c2, .int c3, .int c4]) d119_36 rfl rfl rfl hr
theorem d119_39 : decode (pz_b 119) 39 = .ok (.aload_n 0, 1) := by decide +kernel
theorem q119_39 {dA : Nat → ClassId} {d : Nat} {st : List Value} {f : pz_F} {Q : Option Value → pz_F → Prop} {v1 v2 : Value} {x : Nat} : pz_R dA d 119 39 [.ref x, v1, v2] st f Q = pz_R dA d 119 40 [.ref x, v1, v2] (.ref x :: st) f Q := pz_go (pz_so d119_39 rfl)
theorem d119_40 : decode (pz_b 119) 40 = .ok (.invokevirtual 104, 3) := by decide +kernel
theorem q119_40 {dA : Nat → ClassId} {d : Nat} {st : List Value} {f : pz_F} {Q : Option Value → pz_F → Prop} {v0 v1 v2 : Value} {b : Nat} (hr : st.length ≤ 4) : pz_R dA (d + 1) 119 40 [v0, v1, v2] (.ref b :: st) f Q = pz_o (pz_gu f b 6) (fun _ => pz_C dA d 95 [.ref b] f (fun r f' => pz_R dA (d + 1) 119 43 [v0, v1, v2] (r.toList ++ st) f' Q)) := pz_gcv (As := []) d119_40 rfl rfl rfl hr
theorem d119_43 : decode (pz_b 119) 43 = .ok (.aload_n 0, 1) := by decide +kernel
theorem q119_43 {dA : Nat → ClassId} {d : Nat} {st : List Value} {f : pz_F} {Q : Option Value → pz_F → Prop} {v1 v2 : Value} {x : Nat} : pz_R dA d 119 43 [.ref x, v1, v2] st f Q = pz_R dA d 119 44 [.ref x, v1, v2] (.ref x :: st) f Q := pz_go (pz_so d119_43 rfl)
theorem d119_44 : decode (pz_b 119) 44 = .ok (.getfield 54, 3) := by decide +kernel
theorem q119_44 {dA : Nat → ClassId} {d : Nat} {st : List Value} {f : pz_F} {Q : Option Value → pz_F → Prop} {v0 v1 v2 : Value} {a : Nat} : pz_R dA d 119 44 [v0, v1, v2] (.ref a :: st) f Q = pz_o (pz_gf f a 6 15) (fun v => pz_R dA d 119 47 [v0, v1, v2] (v :: st) f Q) := pz_gg d119_44 rfl
theorem d119_47 : decode (pz_b 119) 47 = .ok (.iload_n 1, 1) := by decide +kernel
theorem q119_47 {dA : Nat → ClassId} {d : Nat} {st : List Value} {f : pz_F} {Q : Option Value → pz_F → Prop} {v0 v2 : Value} {x : Int32} : pz_R dA d 119 47 [v0, .int x, v2] st f Q = pz_R dA d 119 48 [v0, .int x, v2] (.int x :: st) f Q := pz_go (pz_so d119_47 rfl)
theorem d119_48 : decode (pz_b 119) 48 = .ok (.iconst (-1), 1) := by decide +kernel
theorem q119_48 {dA : Nat → ClassId} {d : Nat} {st : List Value} {f : pz_F} {Q : Option Value → pz_F → Prop} {v0 v1 v2 : Value} : pz_R dA d 119 48 [v0, v1, v2] st f Q = pz_R dA d 119 49 [v0, v1, v2] (.int (-1) :: st) f Q := pz_go (pz_so d119_48 rfl)
theorem d119_49 : decode (pz_b 119) 49 = .ok (.iastore, 1) := by decide +kernel
theorem q119_49 {dA : Nat → ClassId} {d : Nat} {st : List Value} {f : pz_F} {Q : Option Value → pz_F → Prop} {v0 v1 v2 : Value} {x i : Int32} {a : Nat} : pz_R dA d 119 49 [v0, v1, v2] (.int x :: .int i :: .ref a :: st) f Q = pz_o (pz_is (dA 0) f a i x) (fun f' => pz_R dA d 119 50 [v0, v1, v2] st f' Q) := pz_gis d119_49
theorem d119_50 : decode (pz_b 119) 50 = .ok (.aload_n 0, 1) := by decide +kernel
theorem q119_50 {dA : Nat → ClassId} {d : Nat} {st : List Value} {f : pz_F} {Q : Option Value → pz_F → Prop} {v1 v2 : Value} {x : Nat} : pz_R dA d 119 50 [.ref x, v1, v2] st f Q = pz_R dA d 119 51 [.ref x, v1, v2] (.ref x :: st) f Q := pz_go (pz_so d119_50 rfl)
theorem d119_51 : decode (pz_b 119) 51 = .ok (.getfield 57, 3) := by decide +kernel
theorem q119_51 {dA : Nat → ClassId} {d : Nat} {st : List Value} {f : pz_F} {Q : Option Value → pz_F → Prop} {v0 v1 v2 : Value} {a : Nat} : pz_R dA d 119 51 [v0, v1, v2] (.ref a :: st) f Q = pz_o (pz_gf f a 6 16) (fun v => pz_R dA d 119 54 [v0, v1, v2] (v :: st) f Q) := pz_gg d119_51 rfl
theorem d119_54 : decode (pz_b 119) 54 = .ok (.iload_n 1, 1) := by decide +kernel
theorem q119_54 {dA : Nat → ClassId} {d : Nat} {st : List Value} {f : pz_F} {Q : Option Value → pz_F → Prop} {v0 v2 : Value} {x : Int32} : pz_R dA d 119 54 [v0, .int x, v2] st f Q = pz_R dA d 119 55 [v0, .int x, v2] (.int x :: st) f Q := pz_go (pz_so d119_54 rfl)
theorem d119_55 : decode (pz_b 119) 55 = .ok (.iconst 0, 1) := by decide +kernel
theorem q119_55 {dA : Nat → ClassId} {d : Nat} {st : List Value} {f : pz_F} {Q : Option Value → pz_F → Prop} {v0 v1 v2 : Value} : pz_R dA d 119 55 [v0, v1, v2] st f Q = pz_R dA d 119 56 [v0, v1, v2] (.int 0 :: st) f Q := pz_go (pz_so d119_55 rfl)
theorem d119_56 : decode (pz_b 119) 56 = .ok (.iastore, 1) := by decide +kernel
theorem q119_56 {dA : Nat → ClassId} {d : Nat} {st : List Value} {f : pz_F} {Q : Option Value → pz_F → Prop} {v0 v1 v2 : Value} {x i : Int32} {a : Nat} : pz_R dA d 119 56 [v0, v1, v2] (.int x :: .int i :: .ref a :: st) f Q = pz_o (pz_is (dA 0) f a i x) (fun f' => pz_R dA d 119 57 [v0, v1, v2] st f' Q) := pz_gis d119_56
theorem d119_57 : decode (pz_b 119) 57 = .ok (.aload_n 0, 1) := by decide +kernel
theorem q119_57 {dA : Nat → ClassId} {d : Nat} {st : List Value} {f : pz_F} {Q : Option Value → pz_F → Prop} {v1 v2 : Value} {x : Nat} : pz_R dA d 119 57 [.ref x, v1, v2] st f Q = pz_R dA d 119 58 [.ref x, v1, v2] (.ref x :: st) f Q := pz_go (pz_so d119_57 rfl)
theorem d119_58 : decode (pz_b 119) 58 = .ok (.getfield 63, 3) := by decide +kernel
theorem q119_58 {dA : Nat → ClassId} {d : Nat} {st : List Value} {f : pz_F} {Q : Option Value → pz_F → Prop} {v0 v1 v2 : Value} {a : Nat} : pz_R dA d 119 58 [v0, v1, v2] (.ref a :: st) f Q = pz_o (pz_gf f a 6 18) (fun v => pz_R dA d 119 61 [v0, v1, v2] (v :: st) f Q) := pz_gg d119_58 rfl
theorem d119_61 : decode (pz_b 119) 61 = .ok (.iload_n 1, 1) := by decide +kernel
theorem q119_61 {dA : Nat → ClassId} {d : Nat} {st : List Value} {f : pz_F} {Q : Option Value → pz_F → Prop} {v0 v2 : Value} {x : Int32} : pz_R dA d 119 61 [v0, .int x, v2] st f Q = pz_R dA d 119 62 [v0, .int x, v2] (.int x :: st) f Q := pz_go (pz_so d119_61 rfl)
theorem d119_62 : decode (pz_b 119) 62 = .ok (.iconst 0, 1) := by decide +kernel
theorem q119_62 {dA : Nat → ClassId} {d : Nat} {st : List Value} {f : pz_F} {Q : Option Value → pz_F → Prop} {v0 v1 v2 : Value} : pz_R dA d 119 62 [v0, v1, v2] st f Q = pz_R dA d 119 63 [v0, v1, v2] (.int 0 :: st) f Q := pz_go (pz_so d119_62 rfl)
theorem d119_63 : decode (pz_b 119) 63 = .ok (.bastore, 1) := by decide +kernel
theorem q119_63z {dA : Nat → ClassId} {d : Nat} {st : List Value} {f : pz_F} {Q : Option Value → pz_F → Prop} {v0 v1 v2 : Value} {i : Int32} {a : Nat} : pz_R dA d 119 63 [v0, v1, v2] (.int 0 :: .int i :: .ref a :: st) f Q = pz_o (pz_is (dA 1) f a i 0) (fun f' => pz_R dA d 119 64 [v0, v1, v2] st f' Q) := pz_gzs d119_63 rfl
theorem q119_63o {dA : Nat → ClassId} {d : Nat} {st : List Value} {f : pz_F} {Q : Option Value → pz_F → Prop} {v0 v1 v2 : Value} {i : Int32} {a : Nat} : pz_R dA d 119 63 [v0, v1, v2] (.int 1 :: .int i :: .ref a :: st) f Q = pz_o (pz_is (dA 1) f a i 1) (fun f' => pz_R dA d 119 64 [v0, v1, v2] st f' Q) := pz_gzs d119_63 rfl
theorem d119_64 : decode (pz_b 119) 64 = .ok (.aload_n 0, 1) := by decide +kernel
theorem q119_64 {dA : Nat → ClassId} {d : Nat} {st : List Value} {f : pz_F} {Q : Option Value → pz_F → Prop} {v1 v2 : Value} {x : Nat} : pz_R dA d 119 64 [.ref x, v1, v2] st f Q = pz_R dA d 119 65 [.ref x, v1, v2] (.ref x :: st) f Q := pz_go (pz_so d119_64 rfl)
theorem d119_65 : decode (pz_b 119) 65 = .ok (.getfield 66, 3) := by decide +kernel
theorem q119_65 {dA : Nat → ClassId} {d : Nat} {st : List Value} {f : pz_F} {Q : Option Value → pz_F → Prop} {v0 v1 v2 : Value} {a : Nat} : pz_R dA d 119 65 [v0, v1, v2] (.ref a :: st) f Q = pz_o (pz_gf f a 6 19) (fun v => pz_R dA d 119 68 [v0, v1, v2] (v :: st) f Q) := pz_gg d119_65 rfl
theorem d119_68 : decode (pz_b 119) 68 = .ok (.iload_n 1, 1) := by decide +kernel
theorem q119_68 {dA : Nat → ClassId} {d : Nat} {st : List Value} {f : pz_F} {Q : Option Value → pz_F → Prop} {v0 v2 : Value} {x : Int32} : pz_R dA d 119 68 [v0, .int x, v2] st f Q = pz_R dA d 119 69 [v0, .int x, v2] (.int x :: st) f Q := pz_go (pz_so d119_68 rfl)
theorem d119_69 : decode (pz_b 119) 69 = .ok (.aload_n 0, 1) := by decide +kernel
theorem q119_69 {dA : Nat → ClassId} {d : Nat} {st : List Value} {f : pz_F} {Q : Option Value → pz_F → Prop} {v1 v2 : Value} {x : Nat} : pz_R dA d 119 69 [.ref x, v1, v2] st f Q = pz_R dA d 119 70 [.ref x, v1, v2] (.ref x :: st) f Q := pz_go (pz_so d119_69 rfl)
theorem d119_70 : decode (pz_b 119) 70 = .ok (.getfield 78, 3) := by decide +kernel
theorem q119_70 {dA : Nat → ClassId} {d : Nat} {st : List Value} {f : pz_F} {Q : Option Value → pz_F → Prop} {v0 v1 v2 : Value} {a : Nat} : pz_R dA d 119 70 [v0, v1, v2] (.ref a :: st) f Q = pz_o (pz_gf f a 6 0) (fun v => pz_R dA d 119 73 [v0, v1, v2] (v :: st) f Q) := pz_gg d119_70 rfl
theorem d119_73 : decode (pz_b 119) 73 = .ok (.iastore, 1) := by decide +kernel
theorem q119_73 {dA : Nat → ClassId} {d : Nat} {st : List Value} {f : pz_F} {Q : Option Value → pz_F → Prop} {v0 v1 v2 : Value} {x i : Int32} {a : Nat} : pz_R dA d 119 73 [v0, v1, v2] (.int x :: .int i :: .ref a :: st) f Q = pz_o (pz_is (dA 0) f a i x) (fun f' => pz_R dA d 119 74 [v0, v1, v2] st f' Q) := pz_gis d119_73
theorem d119_74 : decode (pz_b 119) 74 = .ok (.iconst 1, 1) := by decide +kernel
theorem q119_74 {dA : Nat → ClassId} {d : Nat} {st : List Value} {f : pz_F} {Q : Option Value → pz_F → Prop} {v0 v1 v2 : Value} : pz_R dA d 119 74 [v0, v1, v2] st f Q = pz_R dA d 119 75 [v0, v1, v2] (.int 1 :: st) f Q := pz_go (pz_so d119_74 rfl)
theorem d119_75 : decode (pz_b 119) 75 = .ok (.ireturn, 1) := by decide +kernel
theorem q119_75z {dA : Nat → ClassId} {d : Nat} {f : pz_F} {Q : Option Value → pz_F → Prop} {v0 v1 v2 : Value} : pz_R dA d 119 75 [v0, v1, v2] [.int 0] f Q = Q (some (.int 0)) f := pz_gri d119_75 rfl rfl
theorem q119_75o {dA : Nat → ClassId} {d : Nat} {f : pz_F} {Q : Option Value → pz_F → Prop} {v0 v1 v2 : Value} : pz_R dA d 119 75 [v0, v1, v2] [.int 1] f Q = Q (some (.int 1)) f := pz_gri d119_75 rfl rfl
/-! X_stop (I)Z -/
theorem e120 {dA : Nat → ClassId} {d : Nat} {f : pz_F} {Q : Option Value → pz_F → Prop} {a0 : Nat} {a1 : Int32} : pz_C dA d 120 [.ref a0, .int a1] f Q = pz_R dA d 120 0 [.ref a0, .int a1, .retAddr 0] [] f Q := rfl
theorem d120_0 : decode (pz_b 120) 0 = .ok (.iload_n 1, 1) := by decide +kernel
theorem q120_0 {dA : Nat → ClassId} {d : Nat} {st : List Value} {f : pz_F} {Q : Option Value → pz_F → Prop} {v0 v2 : Value} {x : Int32} : pz_R dA d 120 0 [v0, .int x, v2] st f Q = pz_R dA d 120 1 [v0, .int x, v2] (.int x :: st) f Q := pz_go (pz_so d120_0 rfl)
theorem d120_1 : decode (pz_b 120) 1 = .ok (.invokestatic 175, 3) := by decide +kernel
theorem q120_1 {dA : Nat → ClassId} {d : Nat} {st : List Value} {f : pz_F} {Q : Option Value → pz_F → Prop} {v0 v1 v2 : Value} {c0 : Int32} (hr : st.length ≤ 4) : pz_R dA (d + 1) 120 1 [v0, v1, v2] (.int c0 :: st) f Q = pz_C dA d 87 [.int c0] f (fun r f' => pz_R dA (d + 1) 120 4 [v0, v1, v2] (r.toList ++ st) f' Q) := pz_gcs (As := [.int c0]) d120_1 rfl rfl rfl hr
theorem d120_4 : decode (pz_b 120) 4 = .ok (.ifCond .eq 41, 3) := by decide +kernel
theorem q120_4 {dA : Nat → ClassId} {d : Nat} {st : List Value} {f : pz_F} {Q : Option Value → pz_F → Prop} {v0 v1 v2 : Value} {x : Int32} : pz_R dA d 120 4 [v0, v1, v2] (.int x :: st) f Q = (if x = 0 then pz_R dA d 120 45 [v0, v1, v2] st f Q else pz_R dA d 120 7 [v0, v1, v2] st f Q) := pz_gj1 .eq d120_4 rfl
theorem d120_7 : decode (pz_b 120) 7 = .ok (.aload_n 0, 1) := by decide +kernel
theorem q120_7 {dA : Nat → ClassId} {d : Nat} {st : List Value} {f : pz_F} {Q : Option Value → pz_F → Prop} {v1 v2 : Value} {x : Nat} : pz_R dA d 120 7 [.ref x, v1, v2] st f Q = pz_R dA d 120 8 [.ref x, v1, v2] (.ref x :: st) f Q := pz_go (pz_so d120_7 rfl)
theorem d120_8 : decode (pz_b 120) 8 = .ok (.getfield 13, 3) := by decide +kernel
theorem q120_8 {dA : Nat → ClassId} {d : Nat} {st : List Value} {f : pz_F} {Q : Option Value → pz_F → Prop} {v0 v1 v2 : Value} {a : Nat} : pz_R dA d 120 8 [v0, v1, v2] (.ref a :: st) f Q = pz_o (pz_gf f a 6 2) (fun v => pz_R dA d 120 11 [v0, v1, v2] (v :: st) f Q) := pz_gg d120_8 rfl
theorem d120_11 : decode (pz_b 120) 11 = .ok (.iconst 0, 1) := by decide +kernel
theorem q120_11 {dA : Nat → ClassId} {d : Nat} {st : List Value} {f : pz_F} {Q : Option Value → pz_F → Prop} {v0 v1 v2 : Value} : pz_R dA d 120 11 [v0, v1, v2] st f Q = pz_R dA d 120 12 [v0, v1, v2] (.int 0 :: st) f Q := pz_go (pz_so d120_11 rfl)
theorem d120_12 : decode (pz_b 120) 12 = .ok (.iaload, 1) := by decide +kernel
theorem q120_12 {dA : Nat → ClassId} {d : Nat} {st : List Value} {f : pz_F} {Q : Option Value → pz_F → Prop} {v0 v1 v2 : Value} {i : Int32} {a : Nat} : pz_R dA d 120 12 [v0, v1, v2] (.int i :: .ref a :: st) f Q = pz_o (pz_il (dA 0) f a i) (fun x => pz_R dA d 120 13 [v0, v1, v2] (.int x :: st) f Q) := pz_gil d120_12
theorem d120_13 : decode (pz_b 120) 13 = .ok (.ifCond .eq 32, 3) := by decide +kernel
theorem q120_13 {dA : Nat → ClassId} {d : Nat} {st : List Value} {f : pz_F} {Q : Option Value → pz_F → Prop} {v0 v1 v2 : Value} {x : Int32} : pz_R dA d 120 13 [v0, v1, v2] (.int x :: st) f Q = (if x = 0 then pz_R dA d 120 45 [v0, v1, v2] st f Q else pz_R dA d 120 16 [v0, v1, v2] st f Q) := pz_gj1 .eq d120_13 rfl
theorem d120_16 : decode (pz_b 120) 16 = .ok (.aload_n 0, 1) := by decide +kernel
theorem q120_16 {dA : Nat → ClassId} {d : Nat} {st : List Value} {f : pz_F} {Q : Option Value → pz_F → Prop} {v1 v2 : Value} {x : Nat} : pz_R dA d 120 16 [.ref x, v1, v2] st f Q = pz_R dA d 120 17 [.ref x, v1, v2] (.ref x :: st) f Q := pz_go (pz_so d120_16 rfl)
theorem d120_17 : decode (pz_b 120) 17 = .ok (.getfield 13, 3) := by decide +kernel
theorem q120_17 {dA : Nat → ClassId} {d : Nat} {st : List Value} {f : pz_F} {Q : Option Value → pz_F → Prop} {v0 v1 v2 : Value} {a : Nat} : pz_R dA d 120 17 [v0, v1, v2] (.ref a :: st) f Q = pz_o (pz_gf f a 6 2) (fun v => pz_R dA d 120 20 [v0, v1, v2] (v :: st) f Q) := pz_gg d120_17 rfl
theorem d120_20 : decode (pz_b 120) 20 = .ok (.iconst 1, 1) := by decide +kernel
theorem q120_20 {dA : Nat → ClassId} {d : Nat} {st : List Value} {f : pz_F} {Q : Option Value → pz_F → Prop} {v0 v1 v2 : Value} : pz_R dA d 120 20 [v0, v1, v2] st f Q = pz_R dA d 120 21 [v0, v1, v2] (.int 1 :: st) f Q := pz_go (pz_so d120_20 rfl)
theorem d120_21 : decode (pz_b 120) 21 = .ok (.iaload, 1) := by decide +kernel
theorem q120_21 {dA : Nat → ClassId} {d : Nat} {st : List Value} {f : pz_F} {Q : Option Value → pz_F → Prop} {v0 v1 v2 : Value} {i : Int32} {a : Nat} : pz_R dA d 120 21 [v0, v1, v2] (.int i :: .ref a :: st) f Q = pz_o (pz_il (dA 0) f a i) (fun x => pz_R dA d 120 22 [v0, v1, v2] (.int x :: st) f Q) := pz_gil d120_21
theorem d120_22 : decode (pz_b 120) 22 = .ok (.ifCond .eq 23, 3) := by decide +kernel
theorem q120_22 {dA : Nat → ClassId} {d : Nat} {st : List Value} {f : pz_F} {Q : Option Value → pz_F → Prop} {v0 v1 v2 : Value} {x : Int32} : pz_R dA d 120 22 [v0, v1, v2] (.int x :: st) f Q = (if x = 0 then pz_R dA d 120 45 [v0, v1, v2] st f Q else pz_R dA d 120 25 [v0, v1, v2] st f Q) := pz_gj1 .eq d120_22 rfl
theorem d120_25 : decode (pz_b 120) 25 = .ok (.aload_n 0, 1) := by decide +kernel
theorem q120_25 {dA : Nat → ClassId} {d : Nat} {st : List Value} {f : pz_F} {Q : Option Value → pz_F → Prop} {v1 v2 : Value} {x : Nat} : pz_R dA d 120 25 [.ref x, v1, v2] st f Q = pz_R dA d 120 26 [.ref x, v1, v2] (.ref x :: st) f Q := pz_go (pz_so d120_25 rfl)
theorem d120_26 : decode (pz_b 120) 26 = .ok (.getfield 13, 3) := by decide +kernel
theorem q120_26 {dA : Nat → ClassId} {d : Nat} {st : List Value} {f : pz_F} {Q : Option Value → pz_F → Prop} {v0 v1 v2 : Value} {a : Nat} : pz_R dA d 120 26 [v0, v1, v2] (.ref a :: st) f Q = pz_o (pz_gf f a 6 2) (fun v => pz_R dA d 120 29 [v0, v1, v2] (v :: st) f Q) := pz_gg d120_26 rfl
theorem d120_29 : decode (pz_b 120) 29 = .ok (.iconst 0, 1) := by decide +kernel
theorem q120_29 {dA : Nat → ClassId} {d : Nat} {st : List Value} {f : pz_F} {Q : Option Value → pz_F → Prop} {v0 v1 v2 : Value} : pz_R dA d 120 29 [v0, v1, v2] st f Q = pz_R dA d 120 30 [v0, v1, v2] (.int 0 :: st) f Q := pz_go (pz_so d120_29 rfl)
theorem d120_30 : decode (pz_b 120) 30 = .ok (.iaload, 1) := by decide +kernel
theorem q120_30 {dA : Nat → ClassId} {d : Nat} {st : List Value} {f : pz_F} {Q : Option Value → pz_F → Prop} {v0 v1 v2 : Value} {i : Int32} {a : Nat} : pz_R dA d 120 30 [v0, v1, v2] (.int i :: .ref a :: st) f Q = pz_o (pz_il (dA 0) f a i) (fun x => pz_R dA d 120 31 [v0, v1, v2] (.int x :: st) f Q) := pz_gil d120_30
theorem d120_31 : decode (pz_b 120) 31 = .ok (.iconst 4, 1) := by decide +kernel
theorem q120_31 {dA : Nat → ClassId} {d : Nat} {st : List Value} {f : pz_F} {Q : Option Value → pz_F → Prop} {v0 v1 v2 : Value} : pz_R dA d 120 31 [v0, v1, v2] st f Q = pz_R dA d 120 32 [v0, v1, v2] (.int 4 :: st) f Q := pz_go (pz_so d120_31 rfl)
theorem d120_32 : decode (pz_b 120) 32 = .ok (.if_icmp .eq 13, 3) := by decide +kernel
theorem q120_32 {dA : Nat → ClassId} {d : Nat} {st : List Value} {f : pz_F} {Q : Option Value → pz_F → Prop} {v0 v1 v2 : Value} {x y : Int32} : pz_R dA d 120 32 [v0, v1, v2] (.int y :: .int x :: st) f Q = (if x = y then pz_R dA d 120 45 [v0, v1, v2] st f Q else pz_R dA d 120 35 [v0, v1, v2] st f Q) := pz_gjn .eq d120_32 rfl
theorem d120_35 : decode (pz_b 120) 35 = .ok (.aload_n 0, 1) := by decide +kernel
theorem q120_35 {dA : Nat → ClassId} {d : Nat} {st : List Value} {f : pz_F} {Q : Option Value → pz_F → Prop} {v1 v2 : Value} {x : Nat} : pz_R dA d 120 35 [.ref x, v1, v2] st f Q = pz_R dA d 120 36 [.ref x, v1, v2] (.ref x :: st) f Q := pz_go (pz_so d120_35 rfl)
theorem d120_36 : decode (pz_b 120) 36 = .ok (.getfield 13, 3) := by decide +kernel
theorem q120_36 {dA : Nat → ClassId} {d : Nat} {st : List Value} {f : pz_F} {Q : Option Value → pz_F → Prop} {v0 v1 v2 : Value} {a : Nat} : pz_R dA d 120 36 [v0, v1, v2] (.ref a :: st) f Q = pz_o (pz_gf f a 6 2) (fun v => pz_R dA d 120 39 [v0, v1, v2] (v :: st) f Q) := pz_gg d120_36 rfl
theorem d120_39 : decode (pz_b 120) 39 = .ok (.iconst 1, 1) := by decide +kernel
theorem q120_39 {dA : Nat → ClassId} {d : Nat} {st : List Value} {f : pz_F} {Q : Option Value → pz_F → Prop} {v0 v1 v2 : Value} : pz_R dA d 120 39 [v0, v1, v2] st f Q = pz_R dA d 120 40 [v0, v1, v2] (.int 1 :: st) f Q := pz_go (pz_so d120_39 rfl)
theorem d120_40 : decode (pz_b 120) 40 = .ok (.iaload, 1) := by decide +kernel
theorem q120_40 {dA : Nat → ClassId} {d : Nat} {st : List Value} {f : pz_F} {Q : Option Value → pz_F → Prop} {v0 v1 v2 : Value} {i : Int32} {a : Nat} : pz_R dA d 120 40 [v0, v1, v2] (.int i :: .ref a :: st) f Q = pz_o (pz_il (dA 0) f a i) (fun x => pz_R dA d 120 41 [v0, v1, v2] (.int x :: st) f Q) := pz_gil d120_40
theorem d120_41 : decode (pz_b 120) 41 = .ok (.iconst 4, 1) := by decide +kernel
theorem q120_41 {dA : Nat → ClassId} {d : Nat} {st : List Value} {f : pz_F} {Q : Option Value → pz_F → Prop} {v0 v1 v2 : Value} : pz_R dA d 120 41 [v0, v1, v2] st f Q = pz_R dA d 120 42 [v0, v1, v2] (.int 4 :: st) f Q := pz_go (pz_so d120_41 rfl)
theorem d120_42 : decode (pz_b 120) 42 = .ok (.if_icmp .ne 5, 3) := by decide +kernel
theorem q120_42 {dA : Nat → ClassId} {d : Nat} {st : List Value} {f : pz_F} {Q : Option Value → pz_F → Prop} {v0 v1 v2 : Value} {x y : Int32} : pz_R dA d 120 42 [v0, v1, v2] (.int y :: .int x :: st) f Q = (if x = y then pz_R dA d 120 45 [v0, v1, v2] st f Q else pz_R dA d 120 47 [v0, v1, v2] st f Q) := pz_gjn .ne d120_42 rfl
theorem d120_45 : decode (pz_b 120) 45 = .ok (.iconst 0, 1) := by decide +kernel
theorem q120_45 {dA : Nat → ClassId} {d : Nat} {st : List Value} {f : pz_F} {Q : Option Value → pz_F → Prop} {v0 v1 v2 : Value} : pz_R dA d 120 45 [v0, v1, v2] st f Q = pz_R dA d 120 46 [v0, v1, v2] (.int 0 :: st) f Q := pz_go (pz_so d120_45 rfl)
theorem d120_46 : decode (pz_b 120) 46 = .ok (.ireturn, 1) := by decide +kernel
theorem q120_46z {dA : Nat → ClassId} {d : Nat} {f : pz_F} {Q : Option Value → pz_F → Prop} {v0 v1 v2 : Value} : pz_R dA d 120 46 [v0, v1, v2] [.int 0] f Q = Q (some (.int 0)) f := pz_gri d120_46 rfl rfl
theorem q120_46o {dA : Nat → ClassId} {d : Nat} {f : pz_F} {Q : Option Value → pz_F → Prop} {v0 v1 v2 : Value} : pz_R dA d 120 46 [v0, v1, v2] [.int 1] f Q = Q (some (.int 1)) f := pz_gri d120_46 rfl rfl
theorem d120_47 : decode (pz_b 120) 47 = .ok (.aload_n 0, 1) := by decide +kernel
theorem q120_47 {dA : Nat → ClassId} {d : Nat} {st : List Value} {f : pz_F} {Q : Option Value → pz_F → Prop} {v1 v2 : Value} {x : Nat} : pz_R dA d 120 47 [.ref x, v1, v2] st f Q = pz_R dA d 120 48 [.ref x, v1, v2] (.ref x :: st) f Q := pz_go (pz_so d120_47 rfl)
theorem d120_48 : decode (pz_b 120) 48 = .ok (.getfield 13, 3) := by decide +kernel
theorem q120_48 {dA : Nat → ClassId} {d : Nat} {st : List Value} {f : pz_F} {Q : Option Value → pz_F → Prop} {v0 v1 v2 : Value} {a : Nat} : pz_R dA d 120 48 [v0, v1, v2] (.ref a :: st) f Q = pz_o (pz_gf f a 6 2) (fun v => pz_R dA d 120 51 [v0, v1, v2] (v :: st) f Q) := pz_gg d120_48 rfl
theorem d120_51 : decode (pz_b 120) 51 = .ok (.iload_n 1, 1) := by decide +kernel
theorem q120_51 {dA : Nat → ClassId} {d : Nat} {st : List Value} {f : pz_F} {Q : Option Value → pz_F → Prop} {v0 v2 : Value} {x : Int32} : pz_R dA d 120 51 [v0, .int x, v2] st f Q = pz_R dA d 120 52 [v0, .int x, v2] (.int x :: st) f Q := pz_go (pz_so d120_51 rfl)
theorem d120_52 : decode (pz_b 120) 52 = .ok (.iconst 0, 1) := by decide +kernel
theorem q120_52 {dA : Nat → ClassId} {d : Nat} {st : List Value} {f : pz_F} {Q : Option Value → pz_F → Prop} {v0 v1 v2 : Value} : pz_R dA d 120 52 [v0, v1, v2] st f Q = pz_R dA d 120 53 [v0, v1, v2] (.int 0 :: st) f Q := pz_go (pz_so d120_52 rfl)
theorem d120_53 : decode (pz_b 120) 53 = .ok (.iastore, 1) := by decide +kernel
theorem q120_53 {dA : Nat → ClassId} {d : Nat} {st : List Value} {f : pz_F} {Q : Option Value → pz_F → Prop} {v0 v1 v2 : Value} {x i : Int32} {a : Nat} : pz_R dA d 120 53 [v0, v1, v2] (.int x :: .int i :: .ref a :: st) f Q = pz_o (pz_is (dA 0) f a i x) (fun f' => pz_R dA d 120 54 [v0, v1, v2] st f' Q) := pz_gis d120_53
theorem d120_54 : decode (pz_b 120) 54 = .ok (.aload_n 0, 1) := by decide +kernel
theorem q120_54 {dA : Nat → ClassId} {d : Nat} {st : List Value} {f : pz_F} {Q : Option Value → pz_F → Prop} {v1 v2 : Value} {x : Nat} : pz_R dA d 120 54 [.ref x, v1, v2] st f Q = pz_R dA d 120 55 [.ref x, v1, v2] (.ref x :: st) f Q := pz_go (pz_so d120_54 rfl)
theorem d120_55 : decode (pz_b 120) 55 = .ok (.getfield 82, 3) := by decide +kernel
theorem q120_55 {dA : Nat → ClassId} {d : Nat} {st : List Value} {f : pz_F} {Q : Option Value → pz_F → Prop} {v0 v1 v2 : Value} {a : Nat} : pz_R dA d 120 55 [v0, v1, v2] (.ref a :: st) f Q = pz_o (pz_gf f a 6 20) (fun v => pz_R dA d 120 58 [v0, v1, v2] (v :: st) f Q) := pz_gg d120_55 rfl
theorem d120_58 : decode (pz_b 120) 58 = .ok (.iconst 1, 1) := by decide +kernel
theorem q120_58 {dA : Nat → ClassId} {d : Nat} {st : List Value} {f : pz_F} {Q : Option Value → pz_F → Prop} {v0 v1 v2 : Value} : pz_R dA d 120 58 [v0, v1, v2] st f Q = pz_R dA d 120 59 [v0, v1, v2] (.int 1 :: st) f Q := pz_go (pz_so d120_58 rfl)
theorem d120_59 : decode (pz_b 120) 59 = .ok (.isub, 1) := by decide +kernel
theorem q120_59 {dA : Nat → ClassId} {d : Nat} {st : List Value} {f : pz_F} {Q : Option Value → pz_F → Prop} {v0 v1 v2 : Value} {x y : Int32} : pz_R dA d 120 59 [v0, v1, v2] (.int y :: .int x :: st) f Q = pz_R dA d 120 60 [v0, v1, v2] (.int (x - y) :: st) f Q := pz_go (pz_so d120_59 rfl)
theorem d120_60 : decode (pz_b 120) 60 = .ok (.istore_n 2, 1) := by decide +kernel
theorem q120_60 {dA : Nat → ClassId} {d : Nat} {st : List Value} {f : pz_F} {Q : Option Value → pz_F → Prop} {v0 v1 v2 : Value} {x : Int32} : pz_R dA d 120 60 [v0, v1, v2] (.int x :: st) f Q = pz_R dA d 120 61 [v0, v1, .int x] st f Q := pz_go (pz_so d120_60 rfl)
theorem d120_61 : decode (pz_b 120) 61 = .ok (.iload_n 2, 1) := by decide +kernel
theorem q120_61 {dA : Nat → ClassId} {d : Nat} {st : List Value} {f : pz_F} {Q : Option Value → pz_F → Prop} {v0 v1 : Value} {x : Int32} : pz_R dA d 120 61 [v0, v1, .int x] st f Q = pz_R dA d 120 62 [v0, v1, .int x] (.int x :: st) f Q := pz_go (pz_so d120_61 rfl)
theorem d120_62 : decode (pz_b 120) 62 = .ok (.ifCond .lt 27, 3) := by decide +kernel
theorem q120_62 {dA : Nat → ClassId} {d : Nat} {st : List Value} {f : pz_F} {Q : Option Value → pz_F → Prop} {v0 v1 v2 : Value} {x : Int32} : pz_R dA d 120 62 [v0, v1, v2] (.int x :: st) f Q = (if x < 0 then pz_R dA d 120 89 [v0, v1, v2] st f Q else pz_R dA d 120 65 [v0, v1, v2] st f Q) := pz_gj1 .lt d120_62 rfl
theorem d120_65 : decode (pz_b 120) 65 = .ok (.aload_n 0, 1) := by decide +kernel
theorem q120_65 {dA : Nat → ClassId} {d : Nat} {st : List Value} {f : pz_F} {Q : Option Value → pz_F → Prop} {v1 v2 : Value} {x : Nat} : pz_R dA d 120 65 [.ref x, v1, v2] st f Q = pz_R dA d 120 66 [.ref x, v1, v2] (.ref x :: st) f Q := pz_go (pz_so d120_65 rfl)
theorem d120_66 : decode (pz_b 120) 66 = .ok (.getfield 69, 3) := by decide +kernel
theorem q120_66 {dA : Nat → ClassId} {d : Nat} {st : List Value} {f : pz_F} {Q : Option Value → pz_F → Prop} {v0 v1 v2 : Value} {a : Nat} : pz_R dA d 120 66 [v0, v1, v2] (.ref a :: st) f Q = pz_o (pz_gf f a 6 21) (fun v => pz_R dA d 120 69 [v0, v1, v2] (v :: st) f Q) := pz_gg d120_66 rfl
theorem d120_69 : decode (pz_b 120) 69 = .ok (.bipush 12, 2) := by decide +kernel
theorem q120_69 {dA : Nat → ClassId} {d : Nat} {st : List Value} {f : pz_F} {Q : Option Value → pz_F → Prop} {v0 v1 v2 : Value} : pz_R dA d 120 69 [v0, v1, v2] st f Q = pz_R dA d 120 71 [v0, v1, v2] (.int 12 :: st) f Q := pz_go (pz_so d120_69 rfl)
theorem d120_71 : decode (pz_b 120) 71 = .ok (.iload_n 2, 1) := by decide +kernel
theorem q120_71 {dA : Nat → ClassId} {d : Nat} {st : List Value} {f : pz_F} {Q : Option Value → pz_F → Prop} {v0 v1 : Value} {x : Int32} : pz_R dA d 120 71 [v0, v1, .int x] st f Q = pz_R dA d 120 72 [v0, v1, .int x] (.int x :: st) f Q := pz_go (pz_so d120_71 rfl)
theorem d120_72 : decode (pz_b 120) 72 = .ok (.imul, 1) := by decide +kernel
theorem q120_72 {dA : Nat → ClassId} {d : Nat} {st : List Value} {f : pz_F} {Q : Option Value → pz_F → Prop} {v0 v1 v2 : Value} {x y : Int32} : pz_R dA d 120 72 [v0, v1, v2] (.int y :: .int x :: st) f Q = pz_R dA d 120 73 [v0, v1, v2] (.int (x * y) :: st) f Q := pz_go (pz_so d120_72 rfl)
theorem d120_73 : decode (pz_b 120) 73 = .ok (.iaload, 1) := by decide +kernel
theorem q120_73 {dA : Nat → ClassId} {d : Nat} {st : List Value} {f : pz_F} {Q : Option Value → pz_F → Prop} {v0 v1 v2 : Value} {i : Int32} {a : Nat} : pz_R dA d 120 73 [v0, v1, v2] (.int i :: .ref a :: st) f Q = pz_o (pz_il (dA 0) f a i) (fun x => pz_R dA d 120 74 [v0, v1, v2] (.int x :: st) f Q) := pz_gil d120_73
theorem d120_74 : decode (pz_b 120) 74 = .ok (.iconst 3, 1) := by decide +kernel
theorem q120_74 {dA : Nat → ClassId} {d : Nat} {st : List Value} {f : pz_F} {Q : Option Value → pz_F → Prop} {v0 v1 v2 : Value} : pz_R dA d 120 74 [v0, v1, v2] st f Q = pz_R dA d 120 75 [v0, v1, v2] (.int 3 :: st) f Q := pz_go (pz_so d120_74 rfl)
theorem d120_75 : decode (pz_b 120) 75 = .ok (.if_icmp .le 8, 3) := by decide +kernel
theorem q120_75 {dA : Nat → ClassId} {d : Nat} {st : List Value} {f : pz_F} {Q : Option Value → pz_F → Prop} {v0 v1 v2 : Value} {x y : Int32} : pz_R dA d 120 75 [v0, v1, v2] (.int y :: .int x :: st) f Q = (if x ≤ y then pz_R dA d 120 83 [v0, v1, v2] st f Q else pz_R dA d 120 78 [v0, v1, v2] st f Q) := pz_gjn .le d120_75 rfl
theorem d120_78 : decode (pz_b 120) 78 = .ok (.aload_n 0, 1) := by decide +kernel
theorem q120_78 {dA : Nat → ClassId} {d : Nat} {st : List Value} {f : pz_F} {Q : Option Value → pz_F → Prop} {v1 v2 : Value} {x : Nat} : pz_R dA d 120 78 [.ref x, v1, v2] st f Q = pz_R dA d 120 79 [.ref x, v1, v2] (.ref x :: st) f Q := pz_go (pz_so d120_78 rfl)
theorem d120_79 : decode (pz_b 120) 79 = .ok (.iload_n 2, 1) := by decide +kernel
theorem q120_79 {dA : Nat → ClassId} {d : Nat} {st : List Value} {f : pz_F} {Q : Option Value → pz_F → Prop} {v0 v1 : Value} {x : Int32} : pz_R dA d 120 79 [v0, v1, .int x] st f Q = pz_R dA d 120 80 [v0, v1, .int x] (.int x :: st) f Q := pz_go (pz_so d120_79 rfl)
theorem d120_80 : decode (pz_b 120) 80 = .ok (.invokevirtual 156, 3) := by decide +kernel
theorem q120_80 {dA : Nat → ClassId} {d : Nat} {st : List Value} {f : pz_F} {Q : Option Value → pz_F → Prop} {v0 v1 v2 : Value} {c0 : Int32} {b : Nat} (hr : st.length ≤ 4) : pz_R dA (d + 1) 120 80 [v0, v1, v2] (.int c0 :: .ref b :: st) f Q = pz_o (pz_gu f b 6) (fun _ => pz_C dA d 96 [.ref b, .int c0] f (fun r f' => pz_R dA (d + 1) 120 83 [v0, v1, v2] (r.toList ++ st) f' Q)) := pz_gcv (As := [.int c0]) d120_80 rfl rfl rfl hr
theorem d120_83 : decode (pz_b 120) 83 = .ok (.iinc 2 (-1), 3) := by decide +kernel
theorem q120_83 {dA : Nat → ClassId} {d : Nat} {st : List Value} {f : pz_F} {Q : Option Value → pz_F → Prop} {v0 v1 : Value} {x : Int32} : pz_R dA d 120 83 [v0, v1, .int x] st f Q = pz_R dA d 120 86 [v0, v1, .int (x + (-1))] st f Q := pz_go (pz_so d120_83 rfl)
theorem d120_86 : decode (pz_b 120) 86 = .ok (.goto (-25), 3) := by decide +kernel
theorem q120_86 {dA : Nat → ClassId} {d : Nat} {st : List Value} {f : pz_F} {Q : Option Value → pz_F → Prop} {v0 v1 v2 : Value} : pz_R dA d 120 86 [v0, v1, v2] st f Q = pz_R dA d 120 61 [v0, v1, v2] st f Q := pz_go (pz_so d120_86 rfl)
theorem d120_89 : decode (pz_b 120) 89 = .ok (.iconst 1, 1) := by decide +kernel
theorem q120_89 {dA : Nat → ClassId} {d : Nat} {st : List Value} {f : pz_F} {Q : Option Value → pz_F → Prop} {v0 v1 v2 : Value} : pz_R dA d 120 89 [v0, v1, v2] st f Q = pz_R dA d 120 90 [v0, v1, v2] (.int 1 :: st) f Q := pz_go (pz_so d120_89 rfl)
theorem d120_90 : decode (pz_b 120) 90 = .ok (.ireturn, 1) := by decide +kernel
theorem q120_90z {dA : Nat → ClassId} {d : Nat} {f : pz_F} {Q : Option Value → pz_F → Prop} {v0 v1 v2 : Value} : pz_R dA d 120 90 [v0, v1, v2] [.int 0] f Q = Q (some (.int 0)) f := pz_gri d120_90 rfl rfl
theorem q120_90o {dA : Nat → ClassId} {d : Nat} {f : pz_F} {Q : Option Value → pz_F → Prop} {v0 v1 v2 : Value} : pz_R dA d 120 90 [v0, v1, v2] [.int 1] f Q = Q (some (.int 1)) f := pz_gri d120_90 rfl rfl
