set_option maxHeartbeats 16000000 in
set_option maxRecDepth 100000 in
theorem law_O {p : Program} {e : Env} {s : State} {m : MethodId} {args : Array Value} {below : List Frame} {meth : Method} {c : Code} {A : Nat → Prop} {Q : State → Prop} (l : Launch) (hl9 : l.stackTraces = false) (D : va_G) (g : Nat → ClassId) (er : Nat → Nat) (dg : Nat → Nat) (ec : Nat → Nat) (fs : Nat → Nat) (fv : Nat → Nat) (qa : Nat) (sw : Nat) (sb : Nat) (sn : Nat) (xs : Nat → Int32) (hFl : zFl) (F : zF p s m args meth c cL_law 11 RL wsL_law D (gT g) A []) (E : zEnvL er D g dg ec fs fv qa sw sb sn xs A s s.heap) (hend : zW p l e room_1 s m args below meth c 11 D A Q 100000 4400000 [] [] [.int 1] 717) : zW p l e room_1 s m args below meth c 11 D A Q 500 5000 [] [(0, .ref sb)] [] 455 := by
  refine z_new (C := RX10) (T := TX10) (N := 12) (ci := 10) (fs := [.null, .null, .null, .null, .null, .null, .null, .null, .null, .int 0, .int 0, .int 0]) (wf := fun n1 => [(n1, .inr (10, [.null, .null, .null, .null, .null, .null, .null, .null, .null, .int 0, .int 0, .int 0]))]) F inlX10 tyX10 tyX10_ok (by decide +kernel : (.classLink RL 8 RX10 : Cond) ∈ wsL_law) (by decide +kernel : (.instantiable RX10 12 : Cond) ∈ wsL_law) (by decide +kernel : (.initialized RX10 : Cond) ∈ wsL_law) rfl (by decide) (Nat.le_of_ble_eq_true rfl) (Nat.le_of_ble_eq_true rfl) (fun _ => rfl) dL_law_455 (fun n1 => ?_)
  refine z_dup F dL_law_458 rfl ?_
  refine z_callv (wn := []) (wf := fun u3 => [(n1, .inr (10, [.ref (u3 1), .ref (u3 8), .ref (u3 15), .ref (u3 22), .ref (u3 24), .ref (u3 27), .ref (u3 33), .ref (u3 91), .ref (u3 94), .int 0, .int (-1), .int (-1)])), (u3 1, .inr (7, [.ref (u3 2), .ref (u3 3), .ref (u3 4), .ref (u3 5), .ref (u3 6), .ref (u3 7), .int 0, .int 20, .int 0, .int 0])), (u3 2, .inl (g 0, 64, .inl ((fun _ => 0)))), (u3 3, .inl (g 0, 8, .inl ((fun _ => 0)))), (u3 4, .inl (g 0, 8, .inl ((fun _ => 0)))), (u3 5, .inl (g 0, 8, .inl ((fun _ => 0)))), (u3 6, .inl (g 0, 8, .inl ((fun _ => 0)))), (u3 7, .inl (g 1, 8, .inl ((zBo (fun _ => false))))), (u3 8, .inr (7, [.ref (u3 9), .ref (u3 10), .ref (u3 11), .ref (u3 12), .ref (u3 13), .ref (u3 14), .int 0, .int 20, .int 0, .int 0])), (u3 9, .inl (g 0, 64, .inl ((fun _ => 0)))), (u3 10, .inl (g 0, 8, .inl ((fun _ => 0)))), (u3 11, .inl (g 0, 8, .inl ((fun _ => 0)))), (u3 12, .inl (g 0, 8, .inl ((fun _ => 0)))), (u3 13, .inl (g 0, 8, .inl ((fun _ => 0)))), (u3 14, .inl (g 1, 8, .inl ((zBo (fun _ => false))))), (u3 15, .inr (7, [.ref (u3 16), .ref (u3 17), .ref (u3 18), .ref (u3 19), .ref (u3 20), .ref (u3 21), .int 0, .int 20, .int 0, .int 0])), (u3 16, .inl (g 0, 64, .inl ((fun _ => 0)))), (u3 17, .inl (g 0, 8, .inl ((fun _ => 0)))), (u3 18, .inl (g 0, 8, .inl ((fun _ => 0)))), (u3 19, .inl (g 0, 8, .inl ((fun _ => 0)))), (u3 20, .inl (g 0, 8, .inl ((fun _ => 0)))), (u3 21, .inl (g 1, 8, .inl ((zBo (fun _ => false))))), (u3 22, .inr (4, [.ref (u3 23), .int 0, .int 0, .int 0])), (u3 23, .inl (g 0, 8, .inl ((fun _ => 0)))), (u3 24, .inr (9, [.ref (u3 25), .ref (u3 26)])), (u3 25, .inl (g 0, 8, .inl ((fun _ => 0)))), (u3 26, .inl (g 0, 8, .inl ((fun _ => 0)))), (u3 27, .inr (8, [.ref (u3 28), .ref (u3 29), .ref (u3 30), .ref (u3 31), .ref (u3 32)])), (u3 28, .inl (g 0, 64, .inl ((fun _ => 0)))), (u3 29, .inl (g 0, 64, .inl ((fun _ => 0)))), (u3 30, .inl (g 0, 64, .inl ((fun _ => 0)))), (u3 31, .inl (g 0, 8, .inl ((fun _ => 0)))), (u3 32, .inl (g 0, 8, .inl ((fun _ => 0)))), (u3 33, .inr (6, [.ref (u3 34), .int 0, .int 0])), (u3 34, .inl (g 4, 8, .inr (.inr (.inr (.inr ((fun k => some (u3 (35 + 7 * k))))))))), (u3 35, .inr (7, [.ref (u3 36), .ref (u3 37), .ref (u3 38), .ref (u3 39), .ref (u3 40), .ref (u3 41), .int 0, .int 20, .int 0, .int 0])), (u3 36, .inl (g 0, 64, .inl ((fun _ => 0)))), (u3 37, .inl (g 0, 8, .inl ((fun _ => 0)))), (u3 38, .inl (g 0, 8, .inl ((fun _ => 0)))), (u3 39, .inl (g 0, 8, .inl ((fun _ => 0)))), (u3 40, .inl (g 0, 8, .inl ((fun _ => 0)))), (u3 41, .inl (g 1, 8, .inl ((zBo (fun _ => false))))), (u3 42, .inr (7, [.ref (u3 43), .ref (u3 44), .ref (u3 45), .ref (u3 46), .ref (u3 47), .ref (u3 48), .int 0, .int 20, .int 0, .int 0])), (u3 43, .inl (g 0, 64, .inl ((fun _ => 0)))), (u3 44, .inl (g 0, 8, .inl ((fun _ => 0)))), (u3 45, .inl (g 0, 8, .inl ((fun _ => 0)))), (u3 46, .inl (g 0, 8, .inl ((fun _ => 0)))), (u3 47, .inl (g 0, 8, .inl ((fun _ => 0)))), (u3 48, .inl (g 1, 8, .inl ((zBo (fun _ => false))))), (u3 49, .inr (7, [.ref (u3 50), .ref (u3 51), .ref (u3 52), .ref (u3 53), .ref (u3 54), .ref (u3 55), .int 0, .int 20, .int 0, .int 0])), (u3 50, .inl (g 0, 64, .inl ((fun _ => 0)))), (u3 51, .inl (g 0, 8, .inl ((fun _ => 0)))), (u3 52, .inl (g 0, 8, .inl ((fun _ => 0)))), (u3 53, .inl (g 0, 8, .inl ((fun _ => 0)))), (u3 54, .inl (g 0, 8, .inl ((fun _ => 0)))), (u3 55, .inl (g 1, 8, .inl ((zBo (fun _ => false))))), (u3 56, .inr (7, [.ref (u3 57), .ref (u3 58), .ref (u3 59), .ref (u3 60), .ref (u3 61), .ref (u3 62), .int 0, .int 20, .int 0, .int 0])), (u3 57, .inl (g 0, 64, .inl ((fun _ => 0)))), (u3 58, .inl (g 0, 8, .inl ((fun _ => 0)))), (u3 59, .inl (g 0, 8, .inl ((fun _ => 0)))), (u3 60, .inl (g 0, 8, .inl ((fun _ => 0)))), (u3 61, .inl (g 0, 8, .inl ((fun _ => 0)))), (u3 62, .inl (g 1, 8, .inl ((zBo (fun _ => false))))), (u3 63, .inr (7, [.ref (u3 64), .ref (u3 65), .ref (u3 66), .ref (u3 67), .ref (u3 68), .ref (u3 69), .int 0, .int 20, .int 0, .int 0])), (u3 64, .inl (g 0, 64, .inl ((fun _ => 0)))), (u3 65, .inl (g 0, 8, .inl ((fun _ => 0)))), (u3 66, .inl (g 0, 8, .inl ((fun _ => 0)))), (u3 67, .inl (g 0, 8, .inl ((fun _ => 0)))), (u3 68, .inl (g 0, 8, .inl ((fun _ => 0)))), (u3 69, .inl (g 1, 8, .inl ((zBo (fun _ => false))))), (u3 70, .inr (7, [.ref (u3 71), .ref (u3 72), .ref (u3 73), .ref (u3 74), .ref (u3 75), .ref (u3 76), .int 0, .int 20, .int 0, .int 0])), (u3 71, .inl (g 0, 64, .inl ((fun _ => 0)))), (u3 72, .inl (g 0, 8, .inl ((fun _ => 0)))), (u3 73, .inl (g 0, 8, .inl ((fun _ => 0)))), (u3 74, .inl (g 0, 8, .inl ((fun _ => 0)))), (u3 75, .inl (g 0, 8, .inl ((fun _ => 0)))), (u3 76, .inl (g 1, 8, .inl ((zBo (fun _ => false))))), (u3 77, .inr (7, [.ref (u3 78), .ref (u3 79), .ref (u3 80), .ref (u3 81), .ref (u3 82), .ref (u3 83), .int 0, .int 20, .int 0, .int 0])), (u3 78, .inl (g 0, 64, .inl ((fun _ => 0)))), (u3 79, .inl (g 0, 8, .inl ((fun _ => 0)))), (u3 80, .inl (g 0, 8, .inl ((fun _ => 0)))), (u3 81, .inl (g 0, 8, .inl ((fun _ => 0)))), (u3 82, .inl (g 0, 8, .inl ((fun _ => 0)))), (u3 83, .inl (g 1, 8, .inl ((zBo (fun _ => false))))), (u3 84, .inr (7, [.ref (u3 85), .ref (u3 86), .ref (u3 87), .ref (u3 88), .ref (u3 89), .ref (u3 90), .int 0, .int 20, .int 0, .int 0])), (u3 85, .inl (g 0, 64, .inl ((fun _ => 0)))), (u3 86, .inl (g 0, 8, .inl ((fun _ => 0)))), (u3 87, .inl (g 0, 8, .inl ((fun _ => 0)))), (u3 88, .inl (g 0, 8, .inl ((fun _ => 0)))), (u3 89, .inl (g 0, 8, .inl ((fun _ => 0)))), (u3 90, .inl (g 1, 8, .inl ((zBo (fun _ => false))))), (u3 91, .inr (5, [.ref (u3 92), .ref (u3 93), .int 0, .int 0, .int 0, .int 0, .int 0])), (u3 92, .inl (g 2, 60, .inl ((fun _ => 0)))), (u3 93, .inl (g 0, 3, .inl ((fun _ => 0)))), (u3 94, .inr (1, [.ref (u3 95), .int 0, .int 0, .int 0])), (u3 95, .inl (g 3, 16, .inl ((zBy (fun _ => 0)))))]) F (z_runI (ret := none) (st := [.ref n1]) F ((zEnv2_ok er D g dg)) E.1.1.1 (fun sz => c_X10_init l D g er dg n1 sz) (cwI 0 F.1.2.2.2.2 gL_law_X10_init rfl rfl rfl (F.1.2.2.2.2 _ (by decide +kernel : (.initialized RX10 : Cond) ∈ wsL_law)) (F.1.2.2.2.2 _ (by decide +kernel : (.methodLink RL 319 yX10_init : Cond) ∈ wsL_law)) (F.1.2.2.2.2 _ (by decide +kernel : (.instanceMethod yX10_init : Cond) ∈ wsL_law)) rfl (by decide +kernel) ⟨Nat.le_of_ble_eq_true rfl, Nat.le_of_ble_eq_true rfl⟩) [0] [] rfl rfl (by decide) rfl rfl (Nat.le_of_ble_eq_true rfl) dL_law_459 ⟨Nat.le_of_ble_eq_true rfl, Nat.le_of_ble_eq_true rfl⟩) [0] [] [0, 1, 2, 3, 4, 5, 6, 7, 8, 9, 10, 11, 12, 13, 14, 15, 16, 17, 18, 19, 20, 21, 22, 23, 24, 25, 26, 27, 28, 29, 30, 31, 32, 33, 34, 35, 36, 37, 38, 39, 40, 41, 42, 43, 44, 45, 46, 47, 48, 49, 50, 51, 52, 53, 54, 55, 56, 57, 58, 59, 60, 61, 62, 63, 64, 65, 66, 67, 68, 69, 70, 71, 72, 73, 74, 75, 76, 77, 78, 79, 80, 81, 82, 83, 84, 85, 86, 87, 88, 89, 90, 91, 92, 93, 94, 95] rfl rfl (by decide +kernel) (by decide +kernel) (by decide +kernel) (fun _ => rfl) (fun u3 hw2 => ?_)
  clear hw2
  refine z_qext (f' := (fun k => some (zAd n1 u3 (35 + 7 * k)))) (ws' := [(n1, .inr (10, [.ref (u3 1), .ref (u3 8), .ref (u3 15), .ref (u3 22), .ref (u3 24), .ref (u3 27), .ref (u3 33), .ref (u3 91), .ref (u3 94), .int 0, .int (-1), .int (-1)])), (u3 1, .inr (7, [.ref (u3 2), .ref (u3 3), .ref (u3 4), .ref (u3 5), .ref (u3 6), .ref (u3 7), .int 0, .int 20, .int 0, .int 0])), (u3 2, .inl (g 0, 64, .inl ((fun _ => 0)))), (u3 3, .inl (g 0, 8, .inl ((fun _ => 0)))), (u3 4, .inl (g 0, 8, .inl ((fun _ => 0)))), (u3 5, .inl (g 0, 8, .inl ((fun _ => 0)))), (u3 6, .inl (g 0, 8, .inl ((fun _ => 0)))), (u3 7, .inl (g 1, 8, .inl ((zBo (fun _ => false))))), (u3 8, .inr (7, [.ref (u3 9), .ref (u3 10), .ref (u3 11), .ref (u3 12), .ref (u3 13), .ref (u3 14), .int 0, .int 20, .int 0, .int 0])), (u3 9, .inl (g 0, 64, .inl ((fun _ => 0)))), (u3 10, .inl (g 0, 8, .inl ((fun _ => 0)))), (u3 11, .inl (g 0, 8, .inl ((fun _ => 0)))), (u3 12, .inl (g 0, 8, .inl ((fun _ => 0)))), (u3 13, .inl (g 0, 8, .inl ((fun _ => 0)))), (u3 14, .inl (g 1, 8, .inl ((zBo (fun _ => false))))), (u3 15, .inr (7, [.ref (u3 16), .ref (u3 17), .ref (u3 18), .ref (u3 19), .ref (u3 20), .ref (u3 21), .int 0, .int 20, .int 0, .int 0])), (u3 16, .inl (g 0, 64, .inl ((fun _ => 0)))), (u3 17, .inl (g 0, 8, .inl ((fun _ => 0)))), (u3 18, .inl (g 0, 8, .inl ((fun _ => 0)))), (u3 19, .inl (g 0, 8, .inl ((fun _ => 0)))), (u3 20, .inl (g 0, 8, .inl ((fun _ => 0)))), (u3 21, .inl (g 1, 8, .inl ((zBo (fun _ => false))))), (u3 22, .inr (4, [.ref (u3 23), .int 0, .int 0, .int 0])), (u3 23, .inl (g 0, 8, .inl ((fun _ => 0)))), (u3 24, .inr (9, [.ref (u3 25), .ref (u3 26)])), (u3 25, .inl (g 0, 8, .inl ((fun _ => 0)))), (u3 26, .inl (g 0, 8, .inl ((fun _ => 0)))), (u3 27, .inr (8, [.ref (u3 28), .ref (u3 29), .ref (u3 30), .ref (u3 31), .ref (u3 32)])), (u3 28, .inl (g 0, 64, .inl ((fun _ => 0)))), (u3 29, .inl (g 0, 64, .inl ((fun _ => 0)))), (u3 30, .inl (g 0, 64, .inl ((fun _ => 0)))), (u3 31, .inl (g 0, 8, .inl ((fun _ => 0)))), (u3 32, .inl (g 0, 8, .inl ((fun _ => 0)))), (u3 33, .inr (6, [.ref (u3 34), .int 0, .int 0])), (u3 34, .inl (g 4, 8, .inr (.inr (.inr (.inr ((fun k => some (zAd n1 u3 (35 + 7 * k))))))))), (u3 35, .inr (7, [.ref (u3 36), .ref (u3 37), .ref (u3 38), .ref (u3 39), .ref (u3 40), .ref (u3 41), .int 0, .int 20, .int 0, .int 0])), (u3 36, .inl (g 0, 64, .inl ((fun _ => 0)))), (u3 37, .inl (g 0, 8, .inl ((fun _ => 0)))), (u3 38, .inl (g 0, 8, .inl ((fun _ => 0)))), (u3 39, .inl (g 0, 8, .inl ((fun _ => 0)))), (u3 40, .inl (g 0, 8, .inl ((fun _ => 0)))), (u3 41, .inl (g 1, 8, .inl ((zBo (fun _ => false))))), (u3 42, .inr (7, [.ref (u3 43), .ref (u3 44), .ref (u3 45), .ref (u3 46), .ref (u3 47), .ref (u3 48), .int 0, .int 20, .int 0, .int 0])), (u3 43, .inl (g 0, 64, .inl ((fun _ => 0)))), (u3 44, .inl (g 0, 8, .inl ((fun _ => 0)))), (u3 45, .inl (g 0, 8, .inl ((fun _ => 0)))), (u3 46, .inl (g 0, 8, .inl ((fun _ => 0)))), (u3 47, .inl (g 0, 8, .inl ((fun _ => 0)))), (u3 48, .inl (g 1, 8, .inl ((zBo (fun _ => false))))), (u3 49, .inr (7, [.ref (u3 50), .ref (u3 51), .ref (u3 52), .ref (u3 53), .ref (u3 54), .ref (u3 55), .int 0, .int 20, .int 0, .int 0])), (u3 50, .inl (g 0, 64, .inl ((fun _ => 0)))), (u3 51, .inl (g 0, 8, .inl ((fun _ => 0)))), (u3 52, .inl (g 0, 8, .inl ((fun _ => 0)))), (u3 53, .inl (g 0, 8, .inl ((fun _ => 0)))), (u3 54, .inl (g 0, 8, .inl ((fun _ => 0)))), (u3 55, .inl (g 1, 8, .inl ((zBo (fun _ => false))))), (u3 56, .inr (7, [.ref (u3 57), .ref (u3 58), .ref (u3 59), .ref (u3 60), .ref (u3 61), .ref (u3 62), .int 0, .int 20, .int 0, .int 0])), (u3 57, .inl (g 0, 64, .inl ((fun _ => 0)))), (u3 58, .inl (g 0, 8, .inl ((fun _ => 0)))), (u3 59, .inl (g 0, 8, .inl ((fun _ => 0)))), (u3 60, .inl (g 0, 8, .inl ((fun _ => 0)))), (u3 61, .inl (g 0, 8, .inl ((fun _ => 0)))), (u3 62, .inl (g 1, 8, .inl ((zBo (fun _ => false))))), (u3 63, .inr (7, [.ref (u3 64), .ref (u3 65), .ref (u3 66), .ref (u3 67), .ref (u3 68), .ref (u3 69), .int 0, .int 20, .int 0, .int 0])), (u3 64, .inl (g 0, 64, .inl ((fun _ => 0)))), (u3 65, .inl (g 0, 8, .inl ((fun _ => 0)))), (u3 66, .inl (g 0, 8, .inl ((fun _ => 0)))), (u3 67, .inl (g 0, 8, .inl ((fun _ => 0)))), (u3 68, .inl (g 0, 8, .inl ((fun _ => 0)))), (u3 69, .inl (g 1, 8, .inl ((zBo (fun _ => false))))), (u3 70, .inr (7, [.ref (u3 71), .ref (u3 72), .ref (u3 73), .ref (u3 74), .ref (u3 75), .ref (u3 76), .int 0, .int 20, .int 0, .int 0])), (u3 71, .inl (g 0, 64, .inl ((fun _ => 0)))), (u3 72, .inl (g 0, 8, .inl ((fun _ => 0)))), (u3 73, .inl (g 0, 8, .inl ((fun _ => 0)))), (u3 74, .inl (g 0, 8, .inl ((fun _ => 0)))), (u3 75, .inl (g 0, 8, .inl ((fun _ => 0)))), (u3 76, .inl (g 1, 8, .inl ((zBo (fun _ => false))))), (u3 77, .inr (7, [.ref (u3 78), .ref (u3 79), .ref (u3 80), .ref (u3 81), .ref (u3 82), .ref (u3 83), .int 0, .int 20, .int 0, .int 0])), (u3 78, .inl (g 0, 64, .inl ((fun _ => 0)))), (u3 79, .inl (g 0, 8, .inl ((fun _ => 0)))), (u3 80, .inl (g 0, 8, .inl ((fun _ => 0)))), (u3 81, .inl (g 0, 8, .inl ((fun _ => 0)))), (u3 82, .inl (g 0, 8, .inl ((fun _ => 0)))), (u3 83, .inl (g 1, 8, .inl ((zBo (fun _ => false))))), (u3 84, .inr (7, [.ref (u3 85), .ref (u3 86), .ref (u3 87), .ref (u3 88), .ref (u3 89), .ref (u3 90), .int 0, .int 20, .int 0, .int 0])), (u3 85, .inl (g 0, 64, .inl ((fun _ => 0)))), (u3 86, .inl (g 0, 8, .inl ((fun _ => 0)))), (u3 87, .inl (g 0, 8, .inl ((fun _ => 0)))), (u3 88, .inl (g 0, 8, .inl ((fun _ => 0)))), (u3 89, .inl (g 0, 8, .inl ((fun _ => 0)))), (u3 90, .inl (g 1, 8, .inl ((zBo (fun _ => false))))), (u3 91, .inr (5, [.ref (u3 92), .ref (u3 93), .int 0, .int 0, .int 0, .int 0, .int 0])), (u3 92, .inl (g 2, 60, .inl ((fun _ => 0)))), (u3 93, .inl (g 0, 3, .inl ((fun _ => 0)))), (u3 94, .inr (1, [.ref (u3 95), .int 0, .int 0, .int 0])), (u3 95, .inl (g 3, 16, .inl ((zBy (fun _ => 0)))))]) 34 rfl (fun k _ => by unfold zAd; rw [if_neg (by omega)]) rfl ?_
  refine z_ws (ws' := (sysD g ((zAd n1 u3)) k00 ((fun _ => 0)) ((o00 (u3 95))) j00)) rfl ?_
  refine z_astore_n (lv' := [(2, .ref n1), (0, .ref sb)]) F dL_law_462 rfl (by decide) rfl ?_
  have L463 : ∀ (a : Nat → Nat) (o : zOO) (j : zGG) (hbc : oN o ≤ oC o) (hb3 : oC o ≤ 300) (hnc : jnc j ≤ 3), zW p l e room_1 s m args below meth c 11 D A Q 700 7000 (sysD g a k00 ((fun _ => 0)) o j) [(0, .ref sb), (2, .ref (a 0))] [] 463 := by
    intro a o j hbc hb3 hnc
    refine z_aload_n F 1 dL_law_463 rfl rfl ?_
    refine z_aload_n F 0 dL_law_464 rfl rfl ?_
    refine z_sysi (wf := fun k465 => (sysD g a k465 ((fun _ => 0)) o j)) F (z_sysS (X := sysD g a k00 ((fun _ => 0)) o j) (Y := []) (st := []) F ((zEnvL_ok er D g dg ec fs fv qa sw sb sn xs)) E (fun sz => c_L_makes l hl9 D g er dg ec fs fv qa sw sb sn xs a k00 ((fun _ => 0)) o j (zMd_0) (rfl) ((show kN k00 < 8 by decide)) ((show kC k00 < 9 by decide)) (rfl) (hnc) sz) (va_cwS 2 F.1.2.2.2.2 gL_law_L_makes rfl rfl rfl (by decide +kernel) ⟨Nat.le_of_ble_eq_true rfl, Nat.le_of_ble_eq_true rfl⟩) (List.append_nil _).symm [] rfl rfl (by decide) rfl rfl (Nat.le_of_ble_eq_true rfl) dL_law_465 ⟨Nat.le_of_ble_eq_true rfl, Nat.le_of_ble_eq_true rfl⟩) (List.append_nil _).symm (fun _ => rfl) (fun _ => List.append_nil _) (fun r465 k465 hw465 => ?_)
    obtain ⟨e1, ⟨n1, hn31, hM1⟩, hN, hC, hI, hS, hV⟩ := hw465
    have hM : zMd (lMc (kL k465)) 99 (kL k465) := by rw [hM1.1.1]; exact hM1
    have h3 : 3 ≤ lMc (kL k465) := by rw [hM1.1.1]; exact hn31
    have hm8 := hM.1.2
    refine z_top (y := 1) (e1) ?_
    refine z_if_ne (tgt := 473) F dL_law_468 (by decide) (fun c4 => ?_) (fun c4 => ?_)
    · refine z_aload_n F 1 dL_law_473 rfl rfl ?_
      refine z_sysl (wf := fun u474 => (sysD g a k465 ((fun _ => 0)) u474.1 u474.2)) F (z_sysS (X := sysD g a k465 ((fun _ => 0)) o j) (Y := []) (st := []) F ((zEnvL_ok er D g dg ec fs fv qa sw sb sn xs)) E (fun sz => c_L_asks l hl9 D g er dg ec fs fv qa sw sb sn xs a k465 ((fun _ => 0)) o j (hFl) (hm8) ((by omega)) (hbc) (hb3) sz) (va_cwS 1 F.1.2.2.2.2 gL_law_L_asks rfl rfl rfl (by decide +kernel) ⟨Nat.le_of_ble_eq_true rfl, Nat.le_of_ble_eq_true rfl⟩) (List.append_nil _).symm [] rfl rfl (by decide) rfl rfl (Nat.le_of_ble_eq_true rfl) dL_law_474 ⟨Nat.le_of_ble_eq_true rfl, Nat.le_of_ble_eq_true rfl⟩) (List.append_nil _).symm (fun _ => rfl) (fun _ => List.append_nil _) (fun r474 u474 hw474 => ?_)
      obtain ⟨o474, j474⟩ := u474
      try dsimp only at hw474
      refine z_ws (ws' := (sysD g a k465 ((fun _ => 0)) o474 j474)) rfl ?_
      have hq474 : r474 = f_asks (kL k465) := hw474.1
      have hbc474 := hw474.2.2.1
      have hb3474 := hw474.2.2.2.1
      have hnc474 : jnc j474 ≤ 3 := by rw [hw474.2.2.2.2]; exact hnc
      refine z_lstore_n (lv' := [(3, .long r474), (0, .ref sb), (2, .ref (a 0))]) F dL_law_477 rfl (by decide) rfl ?_
      refine z_aload_n F 2 dL_law_478 rfl rfl ?_
      refine z_sysl (wf := fun u479 => (sysD g a k465 ((fun _ => 0)) u479.1 u479.2)) F (z_sysS (X := sysD g a k465 ((fun _ => 0)) o474 j474) (Y := []) (st := []) F ((zEnvL_ok er D g dg ec fs fv qa sw sb sn xs)) E (fun sz => c_L_asks l hl9 D g er dg ec fs fv qa sw sb sn xs a k465 ((fun _ => 0)) o474 j474 (hFl) (hm8) ((by omega)) (hbc474) (hb3474) sz) (va_cwS 1 F.1.2.2.2.2 gL_law_L_asks rfl rfl rfl (by decide +kernel) ⟨Nat.le_of_ble_eq_true rfl, Nat.le_of_ble_eq_true rfl⟩) (List.append_nil _).symm [] rfl rfl (by decide) rfl rfl (Nat.le_of_ble_eq_true rfl) dL_law_479 ⟨Nat.le_of_ble_eq_true rfl, Nat.le_of_ble_eq_true rfl⟩) (List.append_nil _).symm (fun _ => rfl) (fun _ => List.append_nil _) (fun r479 u479 hw479 => ?_)
      obtain ⟨o479, j479⟩ := u479
      try dsimp only at hw479
      refine z_ws (ws' := (sysD g a k465 ((fun _ => 0)) o479 j479)) rfl ?_
      have hq479 : r479 = f_asks (kL k465) := hw479.1
      have hbc479 := hw479.2.2.1
      have hb3479 := hw479.2.2.2.1
      have hnc479 : jnc j479 ≤ 3 := by rw [hw479.2.2.2.2]; exact hnc474
      refine z_lload_n F 0 dL_law_482 rfl rfl ?_
      refine z_lcmp F dL_law_483 ?_
      refine z_top (y := 0) (by rw [hq479, hq474]; exact z_lgs _) ?_
      refine z_if_ne (tgt := 494) F dL_law_484 (by decide) (fun c5 => ?_) (fun c5 => ?_)
      · exact absurd (by decide) c5
      · refine z_aload_n F 2 dL_law_487 rfl rfl ?_
        refine z_sysi (wf := fun u488 => (sysD g a u488.1 u488.2.1 u488.2.2.1 u488.2.2.2)) F (z_sysS (X := sysD g a k465 ((fun _ => 0)) o479 j479) (Y := []) (st := []) F ((zEnvL_ok er D g dg ec fs fv qa sw sb sn xs)) E (fun sz => c_L_thrown l hl9 D g er dg ec fs fv qa sw sb sn xs a k465 ((fun _ => 0)) o479 j479 (hFl) (hM) (h3) (hN) (hC) (hI) (hbc479) (hb3479) (hnc479) sz) (va_cwS 1 F.1.2.2.2.2 gL_law_L_thrown rfl rfl rfl (by decide +kernel) ⟨Nat.le_of_ble_eq_true rfl, Nat.le_of_ble_eq_true rfl⟩) (List.append_nil _).symm [] rfl rfl (by decide) rfl rfl (Nat.le_of_ble_eq_true rfl) dL_law_488 ⟨Nat.le_of_ble_eq_true rfl, Nat.le_of_ble_eq_true rfl⟩) (List.append_nil _).symm (fun _ => rfl) (fun _ => List.append_nil _) (fun r488 u488 hw488 => ?_)
        obtain ⟨k488, x488, o488, j488⟩ := u488
        try dsimp only at hw488
        refine z_ws (ws' := (sysD g a k488 x488 o488 j488)) rfl ?_
        obtain ⟨e1, e2, hbc488, hb3488, hnc488⟩ := hw488
        subst e2
        refine z_top (y := 1) (e1) ?_
        refine z_if_ne (tgt := 496) F dL_law_491 (by decide) (fun c6 => ?_) (fun c6 => ?_)
        · refine z_aload_n F 2 dL_law_496 rfl rfl ?_
          refine z_sysi (wf := fun _ => (sysD g a ((saveK ((errK k465 0 0)))) x488 o488 j488)) F (z_sysV (X := sysD g a ((errK k465 0 0)) x488 o488 j488) (Y := []) (st := []) F ((zEnvL_ok er D g dg ec fs fv qa sw sb sn xs)) E (fun sz => c_sys_save l D g er dg ec fs fv qa sw sb sn xs a ((errK k465 0 0)) x488 o488 j488 sz) (cwV 0 F.1.2.2.2.2 gL_law_X10_save rfl rfl rfl (by decide +kernel) ⟨Nat.le_of_ble_eq_true rfl, Nat.le_of_ble_eq_true rfl⟩) 0 rfl rfl rfl (List.append_nil _).symm [] rfl rfl (by decide) rfl rfl (Nat.le_of_ble_eq_true rfl) dL_law_497 ⟨Nat.le_of_ble_eq_true rfl, Nat.le_of_ble_eq_true rfl⟩) (List.append_nil _).symm (fun _ => rfl) (fun _ => List.append_nil _) (fun r497 _ hw497 => ?_)
          refine z_top (y := nI (lMc (kL k465))) (hw497) ?_
          refine z_istore (lv' := [(5, .int (nI (lMc (kL k465)))), (3, .long r474), (0, .ref sb), (2, .ref (a 0))]) F dL_law_500 (by decide) rfl ?_
          refine z_iload F 0 dL_law_502 rfl ?_
          refine z_aload_n F 3 dL_law_504 rfl rfl ?_
          refine z_calli0 F (z_runV (st := [.int (nI (lMc (kL k465)))]) F (zEnv_ok er) E.1.1.1.1 (fun sz => c_X10_memberCount l D g er a (lMc (kL ((saveK ((errK k465 0 0)))))) (lHc (kL ((saveK ((errK k465 0 0)))))) (lNe (kL ((saveK ((errK k465 0 0)))))) (lLo (kL ((saveK ((errK k465 0 0)))))) (kV ((saveK ((errK k465 0 0))))) (kE ((saveK ((errK k465 0 0))))) (kF ((saveK ((errK k465 0 0))))) (hm8) sz) (cwV 0 F.1.2.2.2.2 gL_law_X10_memberCount rfl rfl rfl (by decide +kernel) ⟨Nat.le_of_ble_eq_true rfl, Nat.le_of_ble_eq_true rfl⟩) 0 rfl rfl rfl [] [0, 1] rfl rfl (by decide) rfl rfl (Nat.le_of_ble_eq_true rfl) dL_law_505 ⟨Nat.le_of_ble_eq_true rfl, Nat.le_of_ble_eq_true rfl⟩) (fun r8 _ hw7 => ?_)
          subst hw7
          refine z_top (y := nI (lMc (kL k465))) (rfl) ?_
          refine z_icmp_ne (tgt := 536) F dL_law_508 (by decide) (fun c9 => ?_) (fun c9 => ?_)
          · exact absurd rfl c9
          · refine z_aload_n F 3 dL_law_511 rfl rfl ?_
            refine z_sysl (wf := fun u512 => (sysD g a ((saveK ((errK k465 0 0)))) x488 u512.1 u512.2)) F (z_sysS (X := sysD g a ((saveK ((errK k465 0 0)))) x488 o488 j488) (Y := []) (st := []) F ((zEnvL_ok er D g dg ec fs fv qa sw sb sn xs)) E (fun sz => c_L_asks l hl9 D g er dg ec fs fv qa sw sb sn xs a ((saveK ((errK k465 0 0)))) x488 o488 j488 (hFl) (hm8) ((show 2 ≤ lMc (kL k465) by omega)) (hbc488) (hb3488) sz) (va_cwS 1 F.1.2.2.2.2 gL_law_L_asks rfl rfl rfl (by decide +kernel) ⟨Nat.le_of_ble_eq_true rfl, Nat.le_of_ble_eq_true rfl⟩) (List.append_nil _).symm [] rfl rfl (by decide) rfl rfl (Nat.le_of_ble_eq_true rfl) dL_law_512 ⟨Nat.le_of_ble_eq_true rfl, Nat.le_of_ble_eq_true rfl⟩) (List.append_nil _).symm (fun _ => rfl) (fun _ => List.append_nil _) (fun r512 u512 hw512 => ?_)
            obtain ⟨o512, j512⟩ := u512
            try dsimp only at hw512
            refine z_ws (ws' := (sysD g a ((saveK ((errK k465 0 0)))) x488 o512 j512)) rfl ?_
            have hq512 : r512 = f_asks (kL k465) := hw512.1
            have hbc512 := hw512.2.2.1
            have hb3512 := hw512.2.2.2.1
            have hnc512 : jnc j512 ≤ 3 := by rw [hw512.2.2.2.2]; exact hnc488
            refine z_lload_n F 1 dL_law_515 rfl rfl ?_
            refine z_lcmp F dL_law_516 ?_
            refine z_top (y := 0) (by rw [hq512, hq474]; exact z_lgs _) ?_
            refine z_if_ne (tgt := 536) F dL_law_517 (by decide) (fun c10 => ?_) (fun c10 => ?_)
            · exact absurd (by decide) c10
            · refine z_aload_n F 3 dL_law_520 rfl rfl ?_
              refine z_sysi (wf := fun k521 => (sysD g a k521 x488 o512 j512)) F (z_sysW (X := sysD g a ((saveK ((errK k465 0 0)))) x488 o512 j512) (Y := []) (st := []) F ((zEnvL_ok er D g dg ec fs fv qa sw sb sn xs)) E (fun sz => c_L_restore l hl9 D g er dg ec fs fv qa sw sb sn xs a ((saveK ((errK k465 0 0)))) x488 o512 j512 sz) (vx_cwSW 1 F.1.2.2.2.2 gL_law_L_restore rfl rfl rfl (by decide +kernel) ⟨Nat.le_of_ble_eq_true rfl, Nat.le_of_ble_eq_true rfl⟩) (List.append_nil _).symm [] rfl rfl (by decide) rfl rfl (Nat.le_of_ble_eq_true rfl) dL_law_521 ⟨Nat.le_of_ble_eq_true rfl, Nat.le_of_ble_eq_true rfl⟩) (List.append_nil _).symm (fun _ => rfl) (fun _ => List.append_nil _) (fun r521 k521 hw521 => ?_)
              obtain ⟨e1, e2⟩ := hw521.1 (if_neg (show ¬ (1 : Int32) = 0 by decide))
              subst e2
              refine z_top (y := nI (lMc (kL k465))) (e1) ?_
              refine z_iload F 0 dL_law_524 rfl ?_
              refine z_icmp_ne (tgt := 536) F dL_law_526 (by decide) (fun c11 => ?_) (fun c11 => ?_)
              · exact absurd rfl c11
              · refine z_aload_n F 3 dL_law_529 rfl rfl ?_
                refine z_calli0 F (z_runV (st := []) F (zEnv_ok er) E.1.1.1.1 (fun sz => c_X10_undoCount l D g er a (kN ((backK (saveK (errK k465 0 0))))) (kC ((backK (saveK (errK k465 0 0))))) (kV ((backK (saveK (errK k465 0 0))))) (kE ((backK (saveK (errK k465 0 0))))) (kF ((backK (saveK (errK k465 0 0))))) sz) (cwV 0 F.1.2.2.2.2 gL_law_X10_undoCount rfl rfl rfl (by decide +kernel) ⟨Nat.le_of_ble_eq_true rfl, Nat.le_of_ble_eq_true rfl⟩) 0 rfl rfl rfl [] [0, 33] rfl rfl (by decide) rfl rfl (Nat.le_of_ble_eq_true rfl) dL_law_530 ⟨Nat.le_of_ble_eq_true rfl, Nat.le_of_ble_eq_true rfl⟩) (fun r13 _ hw12 => ?_)
                subst hw12
                refine z_top (y := 0) (rfl) ?_
                refine z_if_eq (tgt := 538) F dL_law_533 (by decide) (fun c14 => ?_) (fun c14 => ?_)
                · refine z_bipush (v := 9) F dL_law_538 (by decide) ?_
                  refine z_newaL (N := 9) (wf := fun wq => (sysD g a ((backK (saveK (errK k465 0 0)))) x488 o512 j512 ++ [(wq, .inl (g 5, 9, .inr (.inl ((fun _ => 0)))))])) F (by decide +kernel : (.arrayClass .long : Cond) ∈ wsL_law) 5 rfl (by decide) (by decide) (Nat.le_of_ble_eq_true rfl) (Nat.le_of_ble_eq_true rfl) (Nat.le_of_ble_eq_true rfl) (fun _ => rfl) dL_law_540 (fun wq => ?_)
                  refine z_astore (lv' := [(6, .ref wq), (5, .int (nI (lMc (kL k465)))), (3, .long r474), (0, .ref sb), (2, .ref (a 0))]) F dL_law_542 (by decide) rfl ?_
                  refine z_iconst (v := 0) F dL_law_544 (by decide) ?_
                  refine z_istore (lv' := [(7, .int 0), (6, .ref wq), (5, .int (nI (lMc (kL k465)))), (3, .long r474), (0, .ref sb), (2, .ref (a 0))]) F dL_law_545 (by decide) rfl ?_
                  refine z_iconst (v := 0) F dL_law_547 (by decide) ?_
                  refine z_istore (lv' := [(8, .int 0), (7, .int 0), (6, .ref wq), (5, .int (nI (lMc (kL k465)))), (3, .long r474), (0, .ref sb), (2, .ref (a 0))]) F dL_law_548 (by decide) rfl ?_
                  have L550 : ∀ (N550_ : Nat) (d : Nat) (i : Nat) (k1 : zKK) (x1 : Nat → Int32) (o1 : zOO) (j1 : zGG) (wz : Nat → Int64) (hN550_ : 8 - i < N550_) (hd : d ≤ i) (hi8 : i ≤ 8) (hC1 : kC k1 = d) (hN1 : kN k1 < 8) (hS1 : kS k1 = kL k465) (hV1 : kV k1 = 1) (hI1 : kI k1 = 0) (hZ1 : zIv (kL k1)) (hbc1 : oN o1 ≤ oC o1) (hb31 : oC o1 ≤ 300) (hnc1 : jnc j1 ≤ 3) (hH1 : zHs k1 d (fun t L => zIv L ∧ f_asks L = wz (d - 1 - t))), zW p l e room_1 s m args below meth c 11 D A Q (12000 + 3160 * i) (900000 + 239000 * i) (sysD g a k1 x1 o1 j1 ++ [(wq, .inl (g 5, 9, .inr (.inl wz)))]) [(0, .ref sb), (2, .ref (a 0)), (3, .long r474), (5, .int (nI (lMc (kL k465)))), (6, .ref wq), (7, .int (nI d)), (8, .int (nI i))] [] 550 := by
                    intro N550_
                    induction N550_ with
                    | zero =>
                      intro d i k1 x1 o1 j1 wz hN550_
                      exact absurd hN550_ (Nat.not_lt_zero _)
                    | succ N550_ ih550 =>
                      intro d i k1 x1 o1 j1 wz hN550_ hd hi8 hC1 hN1 hS1 hV1 hI1 hZ1 hbc1 hb31 hnc1 hH1
                      refine z_iload F 6 dL_law_550 rfl ?_
                      refine z_bipush (v := 8) F dL_law_552 (by decide) ?_
                      refine z_icmp_ge (tgt := 628) F dL_law_554 (by decide) (fun c15 => ?_) (fun c15 => ?_)
                      · have hii : i = 8 := by have := (nI_leI (a := 8) (b := i) (by decide) (by omega)).mp c15; omega
                        subst hii
                        refine z_iconst (v := 1) F dL_law_628 (by decide) ?_
                        refine z_istore (lv' := [(8, .int 1), (0, .ref sb), (2, .ref (a 0)), (3, .long r474), (5, .int (nI (lMc (kL k465)))), (6, .ref wq), (7, .int (nI d))]) F dL_law_629 (by decide) rfl ?_
                        have L631 : ∀ (N631_ : Nat) (i : Nat) (k2 : zKK) (o2 : zOO) (j2 : zGG) (hN631_ : d + 1 - i < N631_) (hi1 : 1 ≤ i) (hid : i ≤ d + 1) (hC2 : kC k2 = d + 1 - i) (hN2 : kN k2 < 8) (hS2 : kS k2 = kL k465) (hV2 : kV k2 = 1) (hI2 : kI k2 = 0) (hbc2 : oN o2 ≤ oC o2) (hb32 : oC o2 ≤ 300) (hnc2 : jnc j2 ≤ 3) (hH2 : zHs k2 (d + 1 - i) (fun t L => zIv L ∧ f_asks L = wz (d - i - t))), zW p l e room_1 s m args below meth c 11 D A Q (40000 + 1541 * i) (2900000 + 118406 * i) (sysD g a k2 x1 o2 j2 ++ [(wq, .inl (g 5, 9, .inr (.inl wz)))]) [(0, .ref sb), (2, .ref (a 0)), (3, .long r474), (5, .int (nI (lMc (kL k465)))), (6, .ref wq), (7, .int (nI d)), (8, .int (nI i))] [] 631 := by
                          intro N631_
                          induction N631_ with
                          | zero =>
                            intro i k2 o2 j2 hN631_
                            exact absurd hN631_ (Nat.not_lt_zero _)
                          | succ N631_ ih631 =>
                            intro i k2 o2 j2 hN631_ hi1 hid hC2 hN2 hS2 hV2 hI2 hbc2 hb32 hnc2 hH2
                            refine z_iload F 6 dL_law_631 rfl ?_
                            refine z_iload F 5 dL_law_633 rfl ?_
                            refine z_icmp_gt (tgt := 674) F dL_law_635 (by decide) (fun c16 => ?_) (fun c16 => ?_)
                            · have hii : i = d + 1 := by have := (nI_ltI (a := d) (b := i) (by omega) (by omega)).mp c16; omega
                              refine z_aload_n F 1 dL_law_674 rfl rfl ?_
                              refine z_sysi (wf := fun k675 => (sysD g a k675 x1 o2 j2 ++ [(wq, .inl (g 5, 9, .inr (.inl wz)))])) F (z_sysW (X := sysD g a k2 x1 o2 j2) (Y := [(wq, .inl (g 5, 9, .inr (.inl wz)))]) (st := []) F ((zEnvL_ok er D g dg ec fs fv qa sw sb sn xs)) E (fun sz => c_L_undo l hl9 D g er dg ec fs fv qa sw sb sn xs a k2 x1 o2 j2 (hN2) ((by omega)) sz) (vx_cwSW 1 F.1.2.2.2.2 gL_law_L_undo rfl rfl rfl (by decide +kernel) ⟨Nat.le_of_ble_eq_true rfl, Nat.le_of_ble_eq_true rfl⟩) rfl [] rfl rfl (by decide) rfl rfl (Nat.le_of_ble_eq_true rfl) dL_law_675 ⟨by dsimp only [room_1]; omega, by dsimp only [room_1]; omega⟩) rfl (fun _ => rfl) (fun _ => rfl) (fun r675 k675 hw675 => ?_)
                              obtain ⟨e1, e2⟩ := z_undoN hw675 (by omega)
                              have e2 := e2.symm
                              subst e2
                              refine z_top (y := -1001) (e1) ?_
                              refine z_sipush (v := (-1001)) F dL_law_678 (by decide) ?_
                              refine z_icmp_ne (tgt := 716) F dL_law_681 (by decide) (fun c17 => ?_) (fun c17 => ?_)
                              · exact absurd (by decide) c17
                              · refine z_aload_n F 1 dL_law_684 rfl rfl ?_
                                refine z_sysi (wf := fun k685 => (sysD g a k685 x1 o2 j2 ++ [(wq, .inl (g 5, 9, .inr (.inl wz)))])) F (z_sysW (X := sysD g a k2 x1 o2 j2) (Y := [(wq, .inl (g 5, 9, .inr (.inl wz)))]) (st := []) F ((zEnvL_ok er D g dg ec fs fv qa sw sb sn xs)) E (fun sz => c_L_restore l hl9 D g er dg ec fs fv qa sw sb sn xs a k2 x1 o2 j2 sz) (vx_cwSW 1 F.1.2.2.2.2 gL_law_L_restore rfl rfl rfl (by decide +kernel) ⟨Nat.le_of_ble_eq_true rfl, Nat.le_of_ble_eq_true rfl⟩) rfl [] rfl rfl (by decide) rfl rfl (Nat.le_of_ble_eq_true rfl) dL_law_685 ⟨by dsimp only [room_1]; omega, by dsimp only [room_1]; omega⟩) rfl (fun _ => rfl) (fun _ => rfl) (fun r685 k685 hw685 => ?_)
                                obtain ⟨e1, e2⟩ := hw685.1 (if_neg (by rw [hV2]; decide))
                                subst e2
                                refine z_top (y := nI (lMc (kL k465))) (by rw [e1, hS2]) ?_
                                refine z_iload F 3 dL_law_688 rfl ?_
                                refine z_icmp_ne (tgt := 716) F dL_law_690 (by decide) (fun c18 => ?_) (fun c18 => ?_)
                                · exact absurd rfl c18
                                · refine z_aload_n F 1 dL_law_693 rfl rfl ?_
                                  refine z_sysl (wf := fun u694 => (sysD g a ((backK k2)) x1 u694.1 u694.2 ++ [(wq, .inl (g 5, 9, .inr (.inl wz)))])) F (z_sysS (X := sysD g a ((backK k2)) x1 o2 j2) (Y := [(wq, .inl (g 5, 9, .inr (.inl wz)))]) (st := []) F ((zEnvL_ok er D g dg ec fs fv qa sw sb sn xs)) E (fun sz => c_L_asks l hl9 D g er dg ec fs fv qa sw sb sn xs a ((backK k2)) x1 o2 j2 (hFl) ((by show lMc (kS k2) ≤ 8; rw [hS2]; exact hm8)) ((by show 2 ≤ lMc (kS k2); rw [hS2]; omega)) (hbc2) (hb32) sz) (va_cwS 1 F.1.2.2.2.2 gL_law_L_asks rfl rfl rfl (by decide +kernel) ⟨Nat.le_of_ble_eq_true rfl, Nat.le_of_ble_eq_true rfl⟩) rfl [] rfl rfl (by decide) rfl rfl (Nat.le_of_ble_eq_true rfl) dL_law_694 ⟨by dsimp only [room_1]; omega, by dsimp only [room_1]; omega⟩) rfl (fun _ => rfl) (fun _ => rfl) (fun r694 u694 hw694 => ?_)
                                  obtain ⟨o694, j694⟩ := u694
                                  try dsimp only at hw694
                                  refine z_ws (ws' := (sysD g a ((backK k2)) x1 o694 j694 ++ [(wq, .inl (g 5, 9, .inr (.inl wz)))])) rfl ?_
                                  have hq694 : r694 = f_asks (kL k465) := by rw [hw694.1]; show f_asks (kS k2) = _; rw [hS2]
                                  have hbc694 := hw694.2.2.1
                                  have hb3694 := hw694.2.2.2.1
                                  have hnc694 : jnc j694 ≤ 3 := by rw [hw694.2.2.2.2]; exact hnc2
                                  refine z_lload_n F 2 dL_law_697 rfl rfl ?_
                                  refine z_lcmp F dL_law_698 ?_
                                  refine z_top (y := 0) (by rw [hq694, hq474]; exact z_lgs _) ?_
                                  refine z_if_ne (tgt := 716) F dL_law_699 (by decide) (fun c19 => ?_) (fun c19 => ?_)
                                  · exact absurd (by decide) c19
                                  · refine z_aload_n F 1 dL_law_702 rfl rfl ?_
                                    refine z_sysi (wf := fun k703 => (sysD g a k703 x1 o694 j694 ++ [(wq, .inl (g 5, 9, .inr (.inl wz)))])) F (z_sysW (X := sysD g a ((backK k2)) x1 o694 j694) (Y := [(wq, .inl (g 5, 9, .inr (.inl wz)))]) (st := []) F ((zEnvL_ok er D g dg ec fs fv qa sw sb sn xs)) E (fun sz => c_L_undo l hl9 D g er dg ec fs fv qa sw sb sn xs a ((backK k2)) x1 o694 j694 ((show kN k2 < 8 from hN2)) ((show 0 < 9 by decide)) sz) (vx_cwSW 1 F.1.2.2.2.2 gL_law_L_undo rfl rfl rfl (by decide +kernel) ⟨Nat.le_of_ble_eq_true rfl, Nat.le_of_ble_eq_true rfl⟩) rfl [] rfl rfl (by decide) rfl rfl (Nat.le_of_ble_eq_true rfl) dL_law_703 ⟨by dsimp only [room_1]; omega, by dsimp only [room_1]; omega⟩) rfl (fun _ => rfl) (fun _ => rfl) (fun r703 k703 hw703 => ?_)
                                    obtain ⟨e1, e2⟩ := z_undoN hw703 rfl
                                    have e2 := e2.symm
                                    subst e2
                                    refine z_top (y := -1001) (e1) ?_
                                    refine z_sipush (v := (-1001)) F dL_law_706 (by decide) ?_
                                    refine z_icmp_ne (tgt := 716) F dL_law_709 (by decide) (fun c20 => ?_) (fun c20 => ?_)
                                    · exact absurd (by decide) c20
                                    · refine z_iconst (v := 1) F dL_law_712 (by decide) ?_
                                      refine z_goto (tgt := 717) F dL_law_713 (by decide) ?_
                                      refine z_wide (k := 100000) (n := 4400000) (by omega) (by omega) ?_
                                      refine z_drop (X := []) rfl ?_
                                      refine z_loc (lv' := []) [] rfl ?_
                                      exact hend
                            · have hii : i ≤ d := by rcases Nat.lt_or_ge d i with h | h <;> first | exact h | exact absurd (nI_lt h (by omega)) c16
                              refine z_aload_n F 1 dL_law_638 rfl rfl ?_
                              refine z_sysi (wf := fun k639 => (sysD g a k639 x1 o2 j2 ++ [(wq, .inl (g 5, 9, .inr (.inl wz)))])) F (z_sysW (X := sysD g a k2 x1 o2 j2) (Y := [(wq, .inl (g 5, 9, .inr (.inl wz)))]) (st := []) F ((zEnvL_ok er D g dg ec fs fv qa sw sb sn xs)) E (fun sz => c_L_undo l hl9 D g er dg ec fs fv qa sw sb sn xs a k2 x1 o2 j2 (hN2) ((by omega)) sz) (vx_cwSW 1 F.1.2.2.2.2 gL_law_L_undo rfl rfl rfl (by decide +kernel) ⟨Nat.le_of_ble_eq_true rfl, Nat.le_of_ble_eq_true rfl⟩) rfl [] rfl rfl (by decide) rfl rfl (Nat.le_of_ble_eq_true rfl) dL_law_639 ⟨by dsimp only [room_1]; omega, by dsimp only [room_1]; omega⟩) rfl (fun _ => rfl) (fun _ => rfl) (fun r639 k639 hw639 => ?_)
                              obtain ⟨e1, hC639, hN639, hS639, hV639, hI639, hL639, hH639⟩ := z_undo (n := d - i) hw639 (by omega) (by omega) hN2 hS2 hV2 hI2 (by rw [show d - i + 1 = d + 1 - i by omega]; exact hH2)
                              have hL639 : zIv (kL k639) ∧ f_asks (kL k639) = wz (d - i - 0) := hL639
                              refine z_top (y := nI (d - i)) (e1) ?_
                              refine z_iload F 5 dL_law_642 rfl ?_
                              refine z_iload F 6 dL_law_644 rfl ?_
                              refine z_isub F dL_law_646 ?_
                              refine z_top (y := nI (d - i)) (nI_sub hii (by omega)) ?_
                              refine z_icmp_ne (tgt := 666) F dL_law_647 (by decide) (fun c21 => ?_) (fun c21 => ?_)
                              · exact absurd rfl c21
                              · refine z_aload_n F 1 dL_law_650 rfl rfl ?_
                                refine z_sysl (wf := fun u651 => (sysD g a k639 x1 u651.1 u651.2 ++ [(wq, .inl (g 5, 9, .inr (.inl wz)))])) F (z_sysS (X := sysD g a k639 x1 o2 j2) (Y := [(wq, .inl (g 5, 9, .inr (.inl wz)))]) (st := []) F ((zEnvL_ok er D g dg ec fs fv qa sw sb sn xs)) E (fun sz => c_L_asks l hl9 D g er dg ec fs fv qa sw sb sn xs a k639 x1 o2 j2 (hFl) (hL639.1.1.2) ((Nat.le_trans (by decide) hL639.1.1.1)) (hbc2) (hb32) sz) (va_cwS 1 F.1.2.2.2.2 gL_law_L_asks rfl rfl rfl (by decide +kernel) ⟨Nat.le_of_ble_eq_true rfl, Nat.le_of_ble_eq_true rfl⟩) rfl [] rfl rfl (by decide) rfl rfl (Nat.le_of_ble_eq_true rfl) dL_law_651 ⟨by dsimp only [room_1]; omega, by dsimp only [room_1]; omega⟩) rfl (fun _ => rfl) (fun _ => rfl) (fun r651 u651 hw651 => ?_)
                                obtain ⟨o651, j651⟩ := u651
                                try dsimp only at hw651
                                refine z_ws (ws' := (sysD g a k639 x1 o651 j651 ++ [(wq, .inl (g 5, 9, .inr (.inl wz)))])) rfl ?_
                                have hq651 : r651 = f_asks (kL k639) := hw651.1
                                have hbc651 := hw651.2.2.1
                                have hb3651 := hw651.2.2.2.1
                                have hnc651 : jnc j651 ≤ 3 := by rw [hw651.2.2.2.2]; exact hnc2
                                refine z_aload F 4 dL_law_654 rfl ?_
                                refine z_iload F 5 dL_law_656 rfl ?_
                                refine z_iload F 6 dL_law_658 rfl ?_
                                refine z_isub F dL_law_660 ?_
                                refine z_top (y := nI (d - i)) (nI_sub hii (by omega)) ?_
                                refine z_laldN (j := d - i) F 96 5 rfl rfl (by omega) (by decide) dL_law_661 ?_
                                refine z_lcmp F dL_law_662 ?_
                                refine z_top (y := 0) (by rw [hq651, hL639.2]; exact z_lgs _) ?_
                                refine z_if_eq (tgt := 668) F dL_law_663 (by decide) (fun c22 => ?_) (fun c22 => ?_)
                                · refine z_iinc (v := nI (i + 1)) (lv' := [(8, .int (nI (i + 1))), (0, .ref sb), (2, .ref (a 0)), (3, .long r474), (5, .int (nI (lMc (kL k465)))), (6, .ref wq), (7, .int (nI d))]) F dL_law_668 6 rfl (nI_1 i) (by decide) rfl ?_
                                  refine z_goto (tgt := 631) F dL_law_671 (by decide) ?_
                                  refine z_loc (lv' := [(0, .ref sb), (2, .ref (a 0)), (3, .long r474), (5, .int (nI (lMc (kL k465)))), (6, .ref wq), (7, .int (nI d)), (8, .int (nI (i + 1)))]) [1, 2, 3, 4, 5, 6, 0] rfl ?_
                                  refine z_wide (k := 40000 + 1541 * (i + 1)) (n := 2900000 + 118406 * (i + 1)) (by omega) (by omega) ?_
                                  exact ih631 (i + 1) k639 o651 j651 (by omega) (by omega) (by omega) (show kC k639 = d + 1 - (i + 1) by omega) hN639 hS639 hV639 hI639 hbc651 hb3651 hnc651 (z_hsU hH639 (by omega))
                                · exact absurd (by decide) c22
                        refine z_loc (lv' := [(0, .ref sb), (2, .ref (a 0)), (3, .long r474), (5, .int (nI (lMc (kL k465)))), (6, .ref wq), (7, .int (nI d)), (8, .int (nI 1))]) [1, 2, 3, 4, 5, 6, 0] rfl ?_
                        refine z_wide (k := 40000 + 1541 * 1) (n := 2900000 + 118406 * 1) (by omega) (by omega) ?_
                        exact L631 _ 1 k1 o1 j1 (Nat.lt_succ_self _) (by omega) (by omega) hC1 hN1 hS1 hV1 hI1 hbc1 hb31 hnc1 hH1
                      · have hii : i < 8 := z_lt (by omega) (by decide) c15
                        refine z_aload_n F 1 dL_law_557 rfl rfl ?_
                        refine z_sysl (wf := fun u558 => (sysD g a k1 x1 u558.1 u558.2 ++ [(wq, .inl (g 5, 9, .inr (.inl wz)))])) F (z_sysS (X := sysD g a k1 x1 o1 j1) (Y := [(wq, .inl (g 5, 9, .inr (.inl wz)))]) (st := []) F ((zEnvL_ok er D g dg ec fs fv qa sw sb sn xs)) E (fun sz => c_L_asks l hl9 D g er dg ec fs fv qa sw sb sn xs a k1 x1 o1 j1 (hFl) (hZ1.1.2) ((Nat.le_trans (by decide) hZ1.1.1)) (hbc1) (hb31) sz) (va_cwS 1 F.1.2.2.2.2 gL_law_L_asks rfl rfl rfl (by decide +kernel) ⟨Nat.le_of_ble_eq_true rfl, Nat.le_of_ble_eq_true rfl⟩) rfl [] rfl rfl (by decide) rfl rfl (Nat.le_of_ble_eq_true rfl) dL_law_558 ⟨by dsimp only [room_1]; omega, by dsimp only [room_1]; omega⟩) rfl (fun _ => rfl) (fun _ => rfl) (fun r558 u558 hw558 => ?_)
                        obtain ⟨o558, j558⟩ := u558
                        try dsimp only at hw558
                        refine z_ws (ws' := (sysD g a k1 x1 o558 j558 ++ [(wq, .inl (g 5, 9, .inr (.inl wz)))])) rfl ?_
                        have hq558 : r558 = f_asks (kL k1) := hw558.1
                        have hbc558 := hw558.2.2.1
                        have hb3558 := hw558.2.2.2.1
                        have hnc558 : jnc j558 ≤ 3 := by rw [hw558.2.2.2.2]; exact hnc1
                        refine z_lstore (lv' := [(9, .long r558), (0, .ref sb), (2, .ref (a 0)), (3, .long r474), (5, .int (nI (lMc (kL k465)))), (6, .ref wq), (7, .int (nI d)), (8, .int (nI i))]) F dL_law_561 (by decide) rfl ?_
                        refine z_aload_n F 2 dL_law_563 rfl rfl ?_
                        refine z_aload_n F 1 dL_law_564 rfl rfl ?_
                        refine z_bipush (v := 20) F dL_law_565 (by decide) ?_
                        refine z_iload F 7 dL_law_567 rfl ?_
                        refine z_iadd F dL_law_569 ?_
                        refine z_top (y := nI (20 + i)) (nI_add 20 i) ?_
                        refine z_calli0 F (z_runS (st := [.ref (a 0)]) F ((zEnvL_ok er D g dg ec fs fv qa sw sb sn xs)) E (fun sz => c_L_at l D g er dg ec fs fv qa sw sb sn xs (nI (20 + i)) (nI_pos (by omega)) sz) (va_cwS 2 F.1.2.2.2.2 gL_law_L_at rfl rfl rfl (by decide +kernel) ⟨Nat.le_of_ble_eq_true rfl, Nat.le_of_ble_eq_true rfl⟩) [] [] rfl rfl (by decide) rfl rfl (Nat.le_of_ble_eq_true rfl) dL_law_570 ⟨by dsimp only [room_1]; omega, by dsimp only [room_1]; omega⟩) (fun r24 _ hw23 => ?_)
                        subst hw23
                        refine z_iload F 7 dL_law_573 rfl ?_
                        refine z_sipush (v := 977) F dL_law_575 (by decide) ?_
                        refine z_imul F dL_law_578 ?_
                        refine z_ixor F dL_law_579 ?_
                        refine z_ws (ws' := (sysD g a ((inK k1 0)) x1 o558 j558 ++ [(wq, .inl (g 5, 9, .inr (.inl wz)))])) (by rw [inK_self hI1]) ?_
                        refine z_sysi (wf := fun u580 => (sysD g a u580.1 u580.2.1 o558 u580.2.2 ++ [(wq, .inl (g 5, 9, .inr (.inl wz)))])) F (z_sysS (X := sysD g a ((inK k1 0)) x1 o558 j558) (Y := [(wq, .inl (g 5, 9, .inr (.inl wz)))]) (st := []) F ((zEnvL_ok er D g dg ec fs fv qa sw sb sn xs)) E (fun sz => c_L_changes l hl9 D g er dg ec fs fv qa sw sb sn xs a k1 x1 o558 j558 ((f_at sn xs (nI (20 + i))) ^^^ ((nI i) * 977)) (hZ1) (hN1) ((by omega)) (hnc558) sz) (va_cwS 2 F.1.2.2.2.2 gL_law_L_changes rfl rfl rfl (by decide +kernel) ⟨Nat.le_of_ble_eq_true rfl, Nat.le_of_ble_eq_true rfl⟩) rfl [] rfl rfl (by decide) rfl rfl (Nat.le_of_ble_eq_true rfl) dL_law_580 ⟨by dsimp only [room_1]; omega, by dsimp only [room_1]; omega⟩) rfl (fun _ => rfl) (fun _ => rfl) (fun r580 u580 hw580 => ?_)
                        obtain ⟨k580, x580, j580⟩ := u580
                        try dsimp only at hw580
                        refine z_ws (ws' := (sysD g a k580 x580 o558 j580 ++ [(wq, .inl (g 5, 9, .inr (.inl wz)))])) rfl ?_
                        refine z_if_eq (tgt := 599) F dL_law_583 (by decide) (fun c25 => ?_) (fun c25 => ?_)
                        · obtain ⟨ep, fc, e2⟩ : ∃ ep fc, k580 = errK k1 ep fc := by rcases hw580.2 with ⟨e1, e3⟩ | ⟨e1, e3⟩ <;> first | exact e3 | exact absurd (e1.symm.trans c25) (by decide)
                          have e2 : k580 = errK k1 ep fc := e2
                          subst e2
                          have hnc580 := hw580.1
                          refine z_aload_n F 2 dL_law_599 rfl rfl ?_
                          refine z_sysl (wf := fun u600 => (sysD g a ((errK k1 ep fc)) x580 u600.1 u600.2 ++ [(wq, .inl (g 5, 9, .inr (.inl wz)))])) F (z_sysS (X := sysD g a ((errK k1 ep fc)) x580 o558 j580) (Y := [(wq, .inl (g 5, 9, .inr (.inl wz)))]) (st := []) F ((zEnvL_ok er D g dg ec fs fv qa sw sb sn xs)) E (fun sz => c_L_asks l hl9 D g er dg ec fs fv qa sw sb sn xs a ((errK k1 ep fc)) x580 o558 j580 (hFl) (hZ1.1.2) ((Nat.le_trans (by decide) hZ1.1.1)) (hbc558) (hb3558) sz) (va_cwS 1 F.1.2.2.2.2 gL_law_L_asks rfl rfl rfl (by decide +kernel) ⟨Nat.le_of_ble_eq_true rfl, Nat.le_of_ble_eq_true rfl⟩) rfl [] rfl rfl (by decide) rfl rfl (Nat.le_of_ble_eq_true rfl) dL_law_600 ⟨by dsimp only [room_1]; omega, by dsimp only [room_1]; omega⟩) rfl (fun _ => rfl) (fun _ => rfl) (fun r600 u600 hw600 => ?_)
                          obtain ⟨o600, j600⟩ := u600
                          try dsimp only at hw600
                          refine z_ws (ws' := (sysD g a ((errK k1 ep fc)) x580 o600 j600 ++ [(wq, .inl (g 5, 9, .inr (.inl wz)))])) rfl ?_
                          have hq600 : r600 = f_asks (kL k1) := hw600.1
                          have hbc600 := hw600.2.2.1
                          have hb3600 := hw600.2.2.2.1
                          have hnc600 : jnc j600 ≤ 3 := by rw [hw600.2.2.2.2]; exact hnc580
                          refine z_lload F 0 dL_law_603 rfl ?_
                          refine z_lcmp F dL_law_605 ?_
                          refine z_top (y := 0) (by rw [hq600, hq558]; exact z_lgs _) ?_
                          refine z_if_eq (tgt := 611) F dL_law_606 (by decide) (fun c26 => ?_) (fun c26 => ?_)
                          · refine z_aload_n F 2 dL_law_611 rfl rfl ?_
                            refine z_calli0 F (z_runV (st := []) F (zEnv_ok er) E.1.1.1.1 (fun sz => c_X10_undoCount l D g er a (kN ((errK k1 ep fc))) (kC ((errK k1 ep fc))) (kV ((errK k1 ep fc))) (kE ((errK k1 ep fc))) (kF ((errK k1 ep fc))) sz) (cwV 0 F.1.2.2.2.2 gL_law_X10_undoCount rfl rfl rfl (by decide +kernel) ⟨Nat.le_of_ble_eq_true rfl, Nat.le_of_ble_eq_true rfl⟩) 0 rfl rfl rfl [] [0, 33] rfl rfl (by decide) rfl rfl (Nat.le_of_ble_eq_true rfl) dL_law_612 ⟨by dsimp only [room_1]; omega, by dsimp only [room_1]; omega⟩) (fun r28 _ hw27 => ?_)
                            subst hw27
                            refine z_top (y := nI d) (by show nI (kC k1) = _; exact congrArg nI hC1) ?_
                            refine z_iload F 6 dL_law_615 rfl ?_
                            refine z_icmp_eq (tgt := 622) F dL_law_617 (by decide) (fun c29 => ?_) (fun c29 => ?_)
                            · refine z_iinc (v := nI (i + 1)) (lv' := [(8, .int (nI (i + 1))), (9, .long r558), (0, .ref sb), (2, .ref (a 0)), (3, .long r474), (5, .int (nI (lMc (kL k465)))), (6, .ref wq), (7, .int (nI d))]) F dL_law_622 7 rfl (nI_1 i) (by decide) rfl ?_
                              refine z_goto (tgt := 550) F dL_law_625 (by decide) ?_
                              refine z_loc (lv' := [(0, .ref sb), (2, .ref (a 0)), (3, .long r474), (5, .int (nI (lMc (kL k465)))), (6, .ref wq), (7, .int (nI d)), (8, .int (nI (i + 1)))]) [2, 3, 4, 5, 6, 7, 0] rfl ?_
                              refine z_wide (k := 12000 + 3160 * (i + 1)) (n := 900000 + 239000 * (i + 1)) (by omega) (by omega) ?_
                              exact ih550 d (i + 1) ((errK k1 ep fc)) x580 o600 j600 wz (by omega) (by omega) (by omega) hC1 hN1 hS1 hV1 rfl hZ1 hbc600 hb3600 hnc600 hH1
                            · exact absurd rfl c29
                          · exact absurd (by decide) c26
                        · obtain ⟨L9, hZ9, e2⟩ : ∃ L9, zIv L9 ∧ k580 = doneK k1 L9 := by rcases hw580.2 with ⟨e1, L9, hZ9, e2⟩ | ⟨e1, e3⟩ <;> first | exact absurd e1 c25 | exact ⟨L9, hZ9, e2⟩
                          have e2 : k580 = doneK k1 L9 := e2
                          subst e2
                          have hnc580 := hw580.1
                          refine z_aload F 5 dL_law_586 rfl ?_
                          refine z_iload F 6 dL_law_588 rfl ?_
                          refine z_iinc (v := nI (d + 1)) (lv' := [(7, .int (nI (d + 1))), (9, .long r558), (0, .ref sb), (2, .ref (a 0)), (3, .long r474), (5, .int (nI (lMc (kL k465)))), (6, .ref wq), (8, .int (nI i))]) F dL_law_590 6 rfl (nI_1 d) (by decide) rfl ?_
                          refine z_lload F 1 dL_law_593 rfl ?_
                          refine z_lastN (j := d) (ws' := (sysD g a ((doneK k1 L9)) x580 o558 j580 ++ [(wq, .inl (g 5, 9, .inr (.inl ((vp_updL wz d r558)))))])) F 96 5 rfl rfl (by omega) (by decide) rfl dL_law_595 ?_
                          refine z_goto (tgt := 611) F dL_law_596 (by decide) ?_
                          refine z_aload_n F 3 dL_law_611 rfl rfl ?_
                          refine z_calli0 F (z_runV (st := []) F (zEnv_ok er) E.1.1.1.1 (fun sz => c_X10_undoCount l D g er a (kN ((doneK k1 L9))) (kC ((doneK k1 L9))) (kV ((doneK k1 L9))) (kE ((doneK k1 L9))) (kF ((doneK k1 L9))) sz) (cwV 0 F.1.2.2.2.2 gL_law_X10_undoCount rfl rfl rfl (by decide +kernel) ⟨Nat.le_of_ble_eq_true rfl, Nat.le_of_ble_eq_true rfl⟩) 0 rfl rfl rfl [] [0, 33] rfl rfl (by decide) rfl rfl (Nat.le_of_ble_eq_true rfl) dL_law_612 ⟨by dsimp only [room_1]; omega, by dsimp only [room_1]; omega⟩) (fun r31 _ hw30 => ?_)
                          subst hw30
                          refine z_top (y := nI (d + 1)) (by show nI (min (kC k1 + 1) 8) = _; exact congrArg nI (by omega)) ?_
                          refine z_iload F 0 dL_law_615 rfl ?_
                          refine z_icmp_eq (tgt := 622) F dL_law_617 (by decide) (fun c32 => ?_) (fun c32 => ?_)
                          · refine z_iinc (v := nI (i + 1)) (lv' := [(8, .int (nI (i + 1))), (7, .int (nI (d + 1))), (9, .long r558), (0, .ref sb), (2, .ref (a 0)), (3, .long r474), (5, .int (nI (lMc (kL k465)))), (6, .ref wq)]) F dL_law_622 7 rfl (nI_1 i) (by decide) rfl ?_
                            refine z_goto (tgt := 550) F dL_law_625 (by decide) ?_
                            refine z_loc (lv' := [(0, .ref sb), (2, .ref (a 0)), (3, .long r474), (5, .int (nI (lMc (kL k465)))), (6, .ref wq), (7, .int (nI (d + 1))), (8, .int (nI (i + 1)))]) [3, 4, 5, 6, 7, 1, 0] rfl ?_
                            refine z_wide (k := 12000 + 3160 * (i + 1)) (n := 900000 + 239000 * (i + 1)) (by omega) (by omega) ?_
                            exact ih550 (d + 1) (i + 1) ((doneK k1 L9)) x580 o558 j580 ((vp_updL wz d r558)) (by omega) (by omega) (by omega) (show min (kC k1 + 1) 8 = d + 1 by omega) (Nat.mod_lt _ (by decide)) hS1 hV1 rfl hZ9 hbc558 hb3558 hnc580 (z_hsD hH1 hN1 hZ1 hq558 (by omega))
                          · exact absurd rfl c32
                  refine z_loc (lv' := [(0, .ref sb), (2, .ref (a 0)), (3, .long r474), (5, .int (nI (lMc (kL k465)))), (6, .ref wq), (7, .int (nI 0)), (8, .int (nI 0))]) [5, 6, 4, 3, 2, 1, 0] rfl ?_
                  refine z_wide (k := 12000 + 3160 * 0) (n := 900000 + 239000 * 0) (by omega) (by omega) ?_
                  exact L550 _ 0 0 ((backK (saveK (errK k465 0 0)))) x488 o512 j512 ((fun _ => 0)) (Nat.lt_succ_self _) (by omega) (by omega) rfl hN rfl rfl rfl (zMd_iv hM (by decide) h3) hbc512 hb3512 hnc512 zHs_0
                · exact absurd (by decide) c14
        · exact absurd c6 (by decide)
    · exact absurd c4 (by decide)
  refine z_loc (lv' := [(0, .ref sb), (2, .ref (((zAd n1 u3)) 0))]) [1, 0] rfl ?_
  refine z_wide (k := 700) (n := 7000) (by omega) (by omega) ?_
  exact L463 ((zAd n1 u3)) ((o00 (u3 95))) j00 (show 0 ≤ 16 by decide) (show 16 ≤ 300 by decide) (show 0 ≤ 3 by decide)
