set_option maxRecDepth 20000 in
theorem inlX10 : ∀ w ∈ wsX100, w ∈ wsL_law := fun _ h => List.mem_append_left _ (List.mem_append_left _ (List.mem_append_left _ (List.mem_append_left _ (List.mem_append_left _ (List.mem_append_left _ (List.mem_append_left _ (List.mem_append_left _ (List.mem_append_left _ (List.mem_append_left _ (List.mem_append_left _ (List.mem_append_left _ (List.mem_append_left _ (List.mem_append_left _ (List.mem_append_left _ (List.mem_append_left _ (List.mem_append_left _ (List.mem_append_left _ (List.mem_append_left _ (List.mem_append_right _ h)))))))))))))))))))
set_option maxHeartbeats 16000000 in
set_option maxRecDepth 100000 in
theorem law_E {p : Program} {e : Env} {s : State} {m : MethodId} {args : Array Value} {below : List Frame} {meth : Method} {c : Code} {A : Nat → Prop} {Q : State → Prop} (l : Launch) (hl9 : l.stackTraces = false) (D : va_G) (g : Nat → ClassId) (er : Nat → Nat) (dg : Nat → Nat) (ec : Nat → Nat) (fs : Nat → Nat) (fv : Nat → Nat) (qa : Nat) (sw : Nat) (sb : Nat) (sn : Nat) (xs : Nat → Int32) (hFl : zFl) (F : zF p s m args meth c cL_law 11 RL wsL_law D (gT g) A []) (E : zEnvL er D g dg ec fs fv qa sw sb sn xs A s s.heap) (L455 : zW p l e room_1 s m args below meth c 11 D A Q 500 5000 [] [(0, .ref sb)] [] 455) : zW p l e room_1 s m args below meth c 11 D A Q 0 0 [] [(0, .ref sb)] [] 0 := by
  refine z_new (C := RX10) (T := TX10) (N := 12) (ci := 10) (fs := [.null, .null, .null, .null, .null, .null, .null, .null, .null, .int 0, .int 0, .int 0]) (wf := fun n1 => [(n1, .inr (10, [.null, .null, .null, .null, .null, .null, .null, .null, .null, .int 0, .int 0, .int 0]))]) F inlX10 tyX10 tyX10_ok (by decide +kernel : (.classLink RL 8 RX10 : Cond) ∈ wsL_law) (by decide +kernel : (.instantiable RX10 12 : Cond) ∈ wsL_law) (by decide +kernel : (.initialized RX10 : Cond) ∈ wsL_law) rfl (by decide) (Nat.le_of_ble_eq_true rfl) (Nat.le_of_ble_eq_true rfl) (fun _ => rfl) dL_law_0 (fun n1 => ?_)
  refine z_dup F dL_law_3 rfl ?_
  refine z_callv (wn := []) (wf := fun u3 => [(n1, .inr (10, [.ref (u3 1), .ref (u3 8), .ref (u3 15), .ref (u3 22), .ref (u3 24), .ref (u3 27), .ref (u3 33), .ref (u3 91), .ref (u3 94), .int 0, .int (-1), .int (-1)])), (u3 1, .inr (7, [.ref (u3 2), .ref (u3 3), .ref (u3 4), .ref (u3 5), .ref (u3 6), .ref (u3 7), .int 0, .int 20, .int 0, .int 0])), (u3 2, .inl (g 0, 64, .inl ((fun _ => 0)))), (u3 3, .inl (g 0, 8, .inl ((fun _ => 0)))), (u3 4, .inl (g 0, 8, .inl ((fun _ => 0)))), (u3 5, .inl (g 0, 8, .inl ((fun _ => 0)))), (u3 6, .inl (g 0, 8, .inl ((fun _ => 0)))), (u3 7, .inl (g 1, 8, .inl ((zBo (fun _ => false))))), (u3 8, .inr (7, [.ref (u3 9), .ref (u3 10), .ref (u3 11), .ref (u3 12), .ref (u3 13), .ref (u3 14), .int 0, .int 20, .int 0, .int 0])), (u3 9, .inl (g 0, 64, .inl ((fun _ => 0)))), (u3 10, .inl (g 0, 8, .inl ((fun _ => 0)))), (u3 11, .inl (g 0, 8, .inl ((fun _ => 0)))), (u3 12, .inl (g 0, 8, .inl ((fun _ => 0)))), (u3 13, .inl (g 0, 8, .inl ((fun _ => 0)))), (u3 14, .inl (g 1, 8, .inl ((zBo (fun _ => false))))), (u3 15, .inr (7, [.ref (u3 16), .ref (u3 17), .ref (u3 18), .ref (u3 19), .ref (u3 20), .ref (u3 21), .int 0, .int 20, .int 0, .int 0])), (u3 16, .inl (g 0, 64, .inl ((fun _ => 0)))), (u3 17, .inl (g 0, 8, .inl ((fun _ => 0)))), (u3 18, .inl (g 0, 8, .inl ((fun _ => 0)))), (u3 19, .inl (g 0, 8, .inl ((fun _ => 0)))), (u3 20, .inl (g 0, 8, .inl ((fun _ => 0)))), (u3 21, .inl (g 1, 8, .inl ((zBo (fun _ => false))))), (u3 22, .inr (4, [.ref (u3 23), .int 0, .int 0, .int 0])), (u3 23, .inl (g 0, 8, .inl ((fun _ => 0)))), (u3 24, .inr (9, [.ref (u3 25), .ref (u3 26)])), (u3 25, .inl (g 0, 8, .inl ((fun _ => 0)))), (u3 26, .inl (g 0, 8, .inl ((fun _ => 0)))), (u3 27, .inr (8, [.ref (u3 28), .ref (u3 29), .ref (u3 30), .ref (u3 31), .ref (u3 32)])), (u3 28, .inl (g 0, 64, .inl ((fun _ => 0)))), (u3 29, .inl (g 0, 64, .inl ((fun _ => 0)))), (u3 30, .inl (g 0, 64, .inl ((fun _ => 0)))), (u3 31, .inl (g 0, 8, .inl ((fun _ => 0)))), (u3 32, .inl (g 0, 8, .inl ((fun _ => 0)))), (u3 33, .inr (6, [.ref (u3 34), .int 0, .int 0])), (u3 34, .inl (g 4, 8, .inr (.inr (.inr (.inr ((fun k => some (u3 (35 + 7 * k))))))))), (u3 35, .inr (7, [.ref (u3 36), .ref (u3 37), .ref (u3 38), .ref (u3 39), .ref (u3 40), .ref (u3 41), .int 0, .int 20, .int 0, .int 0])), (u3 36, .inl (g 0, 64, .inl ((fun _ => 0)))), (u3 37, .inl (g 0, 8, .inl ((fun _ => 0)))), (u3 38, .inl (g 0, 8, .inl ((fun _ => 0)))), (u3 39, .inl (g 0, 8, .inl ((fun _ => 0)))), (u3 40, .inl (g 0, 8, .inl ((fun _ => 0)))), (u3 41, .inl (g 1, 8, .inl ((zBo (fun _ => false))))), (u3 42, .inr (7, [.ref (u3 43), .ref (u3 44), .ref (u3 45), .ref (u3 46), .ref (u3 47), .ref (u3 48), .int 0, .int 20, .int 0, .int 0])), (u3 43, .inl (g 0, 64, .inl ((fun _ => 0)))), (u3 44, .inl (g 0, 8, .inl ((fun _ => 0)))), (u3 45, .inl (g 0, 8, .inl ((fun _ => 0)))), (u3 46, .inl (g 0, 8, .inl ((fun _ => 0)))), (u3 47, .inl (g 0, 8, .inl ((fun _ => 0)))), (u3 48, .inl (g 1, 8, .inl ((zBo (fun _ => false))))), (u3 49, .inr (7, [.ref (u3 50), .ref (u3 51), .ref (u3 52), .ref (u3 53), .ref (u3 54), .ref (u3 55), .int 0, .int 20, .int 0, .int 0])), (u3 50, .inl (g 0, 64, .inl ((fun _ => 0)))), (u3 51, .inl (g 0, 8, .inl ((fun _ => 0)))), (u3 52, .inl (g 0, 8, .inl ((fun _ => 0)))), (u3 53, .inl (g 0, 8, .inl ((fun _ => 0)))), (u3 54, .inl (g 0, 8, .inl ((fun _ => 0)))), (u3 55, .inl (g 1, 8, .inl ((zBo (fun _ => false))))), (u3 56, .inr (7, [.ref (u3 57), .ref (u3 58), .ref (u3 59), .ref (u3 60), .ref (u3 61), .ref (u3 62), .int 0, .int 20, .int 0, .int 0])), (u3 57, .inl (g 0, 64, .inl ((fun _ => 0)))), (u3 58, .inl (g 0, 8, .inl ((fun _ => 0)))), (u3 59, .inl (g 0, 8, .inl ((fun _ => 0)))), (u3 60, .inl (g 0, 8, .inl ((fun _ => 0)))), (u3 61, .inl (g 0, 8, .inl ((fun _ => 0)))), (u3 62, .inl (g 1, 8, .inl ((zBo (fun _ => false))))), (u3 63, .inr (7, [.ref (u3 64), .ref (u3 65), .ref (u3 66), .ref (u3 67), .ref (u3 68), .ref (u3 69), .int 0, .int 20, .int 0, .int 0])), (u3 64, .inl (g 0, 64, .inl ((fun _ => 0)))), (u3 65, .inl (g 0, 8, .inl ((fun _ => 0)))), (u3 66, .inl (g 0, 8, .inl ((fun _ => 0)))), (u3 67, .inl (g 0, 8, .inl ((fun _ => 0)))), (u3 68, .inl (g 0, 8, .inl ((fun _ => 0)))), (u3 69, .inl (g 1, 8, .inl ((zBo (fun _ => false))))), (u3 70, .inr (7, [.ref (u3 71), .ref (u3 72), .ref (u3 73), .ref (u3 74), .ref (u3 75), .ref (u3 76), .int 0, .int 20, .int 0, .int 0])), (u3 71, .inl (g 0, 64, .inl ((fun _ => 0)))), (u3 72, .inl (g 0, 8, .inl ((fun _ => 0)))), (u3 73, .inl (g 0, 8, .inl ((fun _ => 0)))), (u3 74, .inl (g 0, 8, .inl ((fun _ => 0)))), (u3 75, .inl (g 0, 8, .inl ((fun _ => 0)))), (u3 76, .inl (g 1, 8, .inl ((zBo (fun _ => false))))), (u3 77, .inr (7, [.ref (u3 78), .ref (u3 79), .ref (u3 80), .ref (u3 81), .ref (u3 82), .ref (u3 83), .int 0, .int 20, .int 0, .int 0])), (u3 78, .inl (g 0, 64, .inl ((fun _ => 0)))), (u3 79, .inl (g 0, 8, .inl ((fun _ => 0)))), (u3 80, .inl (g 0, 8, .inl ((fun _ => 0)))), (u3 81, .inl (g 0, 8, .inl ((fun _ => 0)))), (u3 82, .inl (g 0, 8, .inl ((fun _ => 0)))), (u3 83, .inl (g 1, 8, .inl ((zBo (fun _ => false))))), (u3 84, .inr (7, [.ref (u3 85), .ref (u3 86), .ref (u3 87), .ref (u3 88), .ref (u3 89), .ref (u3 90), .int 0, .int 20, .int 0, .int 0])), (u3 85, .inl (g 0, 64, .inl ((fun _ => 0)))), (u3 86, .inl (g 0, 8, .inl ((fun _ => 0)))), (u3 87, .inl (g 0, 8, .inl ((fun _ => 0)))), (u3 88, .inl (g 0, 8, .inl ((fun _ => 0)))), (u3 89, .inl (g 0, 8, .inl ((fun _ => 0)))), (u3 90, .inl (g 1, 8, .inl ((zBo (fun _ => false))))), (u3 91, .inr (5, [.ref (u3 92), .ref (u3 93), .int 0, .int 0, .int 0, .int 0, .int 0])), (u3 92, .inl (g 2, 60, .inl ((fun _ => 0)))), (u3 93, .inl (g 0, 3, .inl ((fun _ => 0)))), (u3 94, .inr (1, [.ref (u3 95), .int 0, .int 0, .int 0])), (u3 95, .inl (g 3, 16, .inl ((zBy (fun _ => 0)))))]) F (z_runI (ret := none) (st := [.ref n1]) F ((zEnv2_ok er D g dg)) E.1.1.1 (fun sz => c_X10_init l D g er dg n1 sz) (cwI 0 F.1.2.2.2.2 gL_law_X10_init rfl rfl rfl (F.1.2.2.2.2 _ (by decide +kernel : (.initialized RX10 : Cond) ∈ wsL_law)) (F.1.2.2.2.2 _ (by decide +kernel : (.methodLink RL 319 yX10_init : Cond) ∈ wsL_law)) (F.1.2.2.2.2 _ (by decide +kernel : (.instanceMethod yX10_init : Cond) ∈ wsL_law)) rfl (by decide +kernel) ⟨Nat.le_of_ble_eq_true rfl, Nat.le_of_ble_eq_true rfl⟩) [0] [] rfl rfl (by decide) rfl rfl (Nat.le_of_ble_eq_true rfl) dL_law_4 ⟨Nat.le_of_ble_eq_true rfl, Nat.le_of_ble_eq_true rfl⟩) [0] [] [0, 1, 2, 3, 4, 5, 6, 7, 8, 9, 10, 11, 12, 13, 14, 15, 16, 17, 18, 19, 20, 21, 22, 23, 24, 25, 26, 27, 28, 29, 30, 31, 32, 33, 34, 35, 36, 37, 38, 39, 40, 41, 42, 43, 44, 45, 46, 47, 48, 49, 50, 51, 52, 53, 54, 55, 56, 57, 58, 59, 60, 61, 62, 63, 64, 65, 66, 67, 68, 69, 70, 71, 72, 73, 74, 75, 76, 77, 78, 79, 80, 81, 82, 83, 84, 85, 86, 87, 88, 89, 90, 91, 92, 93, 94, 95] rfl rfl (by decide +kernel) (by decide +kernel) (by decide +kernel) (fun _ => rfl) (fun u3 hw2 => ?_)
  clear hw2
  refine z_qext (f' := (fun k => some (zAd n1 u3 (35 + 7 * k)))) (ws' := [(n1, .inr (10, [.ref (u3 1), .ref (u3 8), .ref (u3 15), .ref (u3 22), .ref (u3 24), .ref (u3 27), .ref (u3 33), .ref (u3 91), .ref (u3 94), .int 0, .int (-1), .int (-1)])), (u3 1, .inr (7, [.ref (u3 2), .ref (u3 3), .ref (u3 4), .ref (u3 5), .ref (u3 6), .ref (u3 7), .int 0, .int 20, .int 0, .int 0])), (u3 2, .inl (g 0, 64, .inl ((fun _ => 0)))), (u3 3, .inl (g 0, 8, .inl ((fun _ => 0)))), (u3 4, .inl (g 0, 8, .inl ((fun _ => 0)))), (u3 5, .inl (g 0, 8, .inl ((fun _ => 0)))), (u3 6, .inl (g 0, 8, .inl ((fun _ => 0)))), (u3 7, .inl (g 1, 8, .inl ((zBo (fun _ => false))))), (u3 8, .inr (7, [.ref (u3 9), .ref (u3 10), .ref (u3 11), .ref (u3 12), .ref (u3 13), .ref (u3 14), .int 0, .int 20, .int 0, .int 0])), (u3 9, .inl (g 0, 64, .inl ((fun _ => 0)))), (u3 10, .inl (g 0, 8, .inl ((fun _ => 0)))), (u3 11, .inl (g 0, 8, .inl ((fun _ => 0)))), (u3 12, .inl (g 0, 8, .inl ((fun _ => 0)))), (u3 13, .inl (g 0, 8, .inl ((fun _ => 0)))), (u3 14, .inl (g 1, 8, .inl ((zBo (fun _ => false))))), (u3 15, .inr (7, [.ref (u3 16), .ref (u3 17), .ref (u3 18), .ref (u3 19), .ref (u3 20), .ref (u3 21), .int 0, .int 20, .int 0, .int 0])), (u3 16, .inl (g 0, 64, .inl ((fun _ => 0)))), (u3 17, .inl (g 0, 8, .inl ((fun _ => 0)))), (u3 18, .inl (g 0, 8, .inl ((fun _ => 0)))), (u3 19, .inl (g 0, 8, .inl ((fun _ => 0)))), (u3 20, .inl (g 0, 8, .inl ((fun _ => 0)))), (u3 21, .inl (g 1, 8, .inl ((zBo (fun _ => false))))), (u3 22, .inr (4, [.ref (u3 23), .int 0, .int 0, .int 0])), (u3 23, .inl (g 0, 8, .inl ((fun _ => 0)))), (u3 24, .inr (9, [.ref (u3 25), .ref (u3 26)])), (u3 25, .inl (g 0, 8, .inl ((fun _ => 0)))), (u3 26, .inl (g 0, 8, .inl ((fun _ => 0)))), (u3 27, .inr (8, [.ref (u3 28), .ref (u3 29), .ref (u3 30), .ref (u3 31), .ref (u3 32)])), (u3 28, .inl (g 0, 64, .inl ((fun _ => 0)))), (u3 29, .inl (g 0, 64, .inl ((fun _ => 0)))), (u3 30, .inl (g 0, 64, .inl ((fun _ => 0)))), (u3 31, .inl (g 0, 8, .inl ((fun _ => 0)))), (u3 32, .inl (g 0, 8, .inl ((fun _ => 0)))), (u3 33, .inr (6, [.ref (u3 34), .int 0, .int 0])), (u3 34, .inl (g 4, 8, .inr (.inr (.inr (.inr ((fun k => some (zAd n1 u3 (35 + 7 * k))))))))), (u3 35, .inr (7, [.ref (u3 36), .ref (u3 37), .ref (u3 38), .ref (u3 39), .ref (u3 40), .ref (u3 41), .int 0, .int 20, .int 0, .int 0])), (u3 36, .inl (g 0, 64, .inl ((fun _ => 0)))), (u3 37, .inl (g 0, 8, .inl ((fun _ => 0)))), (u3 38, .inl (g 0, 8, .inl ((fun _ => 0)))), (u3 39, .inl (g 0, 8, .inl ((fun _ => 0)))), (u3 40, .inl (g 0, 8, .inl ((fun _ => 0)))), (u3 41, .inl (g 1, 8, .inl ((zBo (fun _ => false))))), (u3 42, .inr (7, [.ref (u3 43), .ref (u3 44), .ref (u3 45), .ref (u3 46), .ref (u3 47), .ref (u3 48), .int 0, .int 20, .int 0, .int 0])), (u3 43, .inl (g 0, 64, .inl ((fun _ => 0)))), (u3 44, .inl (g 0, 8, .inl ((fun _ => 0)))), (u3 45, .inl (g 0, 8, .inl ((fun _ => 0)))), (u3 46, .inl (g 0, 8, .inl ((fun _ => 0)))), (u3 47, .inl (g 0, 8, .inl ((fun _ => 0)))), (u3 48, .inl (g 1, 8, .inl ((zBo (fun _ => false))))), (u3 49, .inr (7, [.ref (u3 50), .ref (u3 51), .ref (u3 52), .ref (u3 53), .ref (u3 54), .ref (u3 55), .int 0, .int 20, .int 0, .int 0])), (u3 50, .inl (g 0, 64, .inl ((fun _ => 0)))), (u3 51, .inl (g 0, 8, .inl ((fun _ => 0)))), (u3 52, .inl (g 0, 8, .inl ((fun _ => 0)))), (u3 53, .inl (g 0, 8, .inl ((fun _ => 0)))), (u3 54, .inl (g 0, 8, .inl ((fun _ => 0)))), (u3 55, .inl (g 1, 8, .inl ((zBo (fun _ => false))))), (u3 56, .inr (7, [.ref (u3 57), .ref (u3 58), .ref (u3 59), .ref (u3 60), .ref (u3 61), .ref (u3 62), .int 0, .int 20, .int 0, .int 0])), (u3 57, .inl (g 0, 64, .inl ((fun _ => 0)))), (u3 58, .inl (g 0, 8, .inl ((fun _ => 0)))), (u3 59, .inl (g 0, 8, .inl ((fun _ => 0)))), (u3 60, .inl (g 0, 8, .inl ((fun _ => 0)))), (u3 61, .inl (g 0, 8, .inl ((fun _ => 0)))), (u3 62, .inl (g 1, 8, .inl ((zBo (fun _ => false))))), (u3 63, .inr (7, [.ref (u3 64), .ref (u3 65), .ref (u3 66), .ref (u3 67), .ref (u3 68), .ref (u3 69), .int 0, .int 20, .int 0, .int 0])), (u3 64, .inl (g 0, 64, .inl ((fun _ => 0)))), (u3 65, .inl (g 0, 8, .inl ((fun _ => 0)))), (u3 66, .inl (g 0, 8, .inl ((fun _ => 0)))), (u3 67, .inl (g 0, 8, .inl ((fun _ => 0)))), (u3 68, .inl (g 0, 8, .inl ((fun _ => 0)))), (u3 69, .inl (g 1, 8, .inl ((zBo (fun _ => false))))), (u3 70, .inr (7, [.ref (u3 71), .ref (u3 72), .ref (u3 73), .ref (u3 74), .ref (u3 75), .ref (u3 76), .int 0, .int 20, .int 0, .int 0])), (u3 71, .inl (g 0, 64, .inl ((fun _ => 0)))), (u3 72, .inl (g 0, 8, .inl ((fun _ => 0)))), (u3 73, .inl (g 0, 8, .inl ((fun _ => 0)))), (u3 74, .inl (g 0, 8, .inl ((fun _ => 0)))), (u3 75, .inl (g 0, 8, .inl ((fun _ => 0)))), (u3 76, .inl (g 1, 8, .inl ((zBo (fun _ => false))))), (u3 77, .inr (7, [.ref (u3 78), .ref (u3 79), .ref (u3 80), .ref (u3 81), .ref (u3 82), .ref (u3 83), .int 0, .int 20, .int 0, .int 0])), (u3 78, .inl (g 0, 64, .inl ((fun _ => 0)))), (u3 79, .inl (g 0, 8, .inl ((fun _ => 0)))), (u3 80, .inl (g 0, 8, .inl ((fun _ => 0)))), (u3 81, .inl (g 0, 8, .inl ((fun _ => 0)))), (u3 82, .inl (g 0, 8, .inl ((fun _ => 0)))), (u3 83, .inl (g 1, 8, .inl ((zBo (fun _ => false))))), (u3 84, .inr (7, [.ref (u3 85), .ref (u3 86), .ref (u3 87), .ref (u3 88), .ref (u3 89), .ref (u3 90), .int 0, .int 20, .int 0, .int 0])), (u3 85, .inl (g 0, 64, .inl ((fun _ => 0)))), (u3 86, .inl (g 0, 8, .inl ((fun _ => 0)))), (u3 87, .inl (g 0, 8, .inl ((fun _ => 0)))), (u3 88, .inl (g 0, 8, .inl ((fun _ => 0)))), (u3 89, .inl (g 0, 8, .inl ((fun _ => 0)))), (u3 90, .inl (g 1, 8, .inl ((zBo (fun _ => false))))), (u3 91, .inr (5, [.ref (u3 92), .ref (u3 93), .int 0, .int 0, .int 0, .int 0, .int 0])), (u3 92, .inl (g 2, 60, .inl ((fun _ => 0)))), (u3 93, .inl (g 0, 3, .inl ((fun _ => 0)))), (u3 94, .inr (1, [.ref (u3 95), .int 0, .int 0, .int 0])), (u3 95, .inl (g 3, 16, .inl ((zBy (fun _ => 0)))))]) 34 rfl (fun k _ => by unfold zAd; rw [if_neg (by omega)]) rfl ?_
  refine z_ws (ws' := (sysD g ((zAd n1 u3)) k00 ((fun _ => 0)) ((o00 (u3 95))) j00)) rfl ?_
  refine z_astore_n (lv' := [(1, .ref n1), (0, .ref sb)]) F dL_law_7 rfl (by decide) rfl ?_
  have L8 : ∀ (a : Nat → Nat) (o : zOO) (j : zGG) (hbc : oN o ≤ oC o) (hb3 : oC o ≤ 300) (hnc : jnc j ≤ 3), zW p l e room_1 s m args below meth c 11 D A Q 120 1700 (sysD g a k00 ((fun _ => 0)) o j) [(0, .ref sb), (1, .ref (a 0))] [] 8 := by
    intro a o j hbc hb3 hnc
    refine z_aload_n F 1 dL_law_8 rfl rfl ?_
    refine z_sysi (wf := fun k9 => (sysD g a k9 ((fun _ => 0)) o j)) F (z_sysW (X := sysD g a k00 ((fun _ => 0)) o j) (Y := []) (st := []) F ((zEnvL_ok er D g dg ec fs fv qa sw sb sn xs)) E (fun sz => c_L_undo l hl9 D g er dg ec fs fv qa sw sb sn xs a k00 ((fun _ => 0)) o j ((show kN k00 < 8 by decide)) ((show kC k00 < 9 by decide)) sz) (vx_cwSW 1 F.1.2.2.2.2 gL_law_L_undo rfl rfl rfl (by decide +kernel) ⟨Nat.le_of_ble_eq_true rfl, Nat.le_of_ble_eq_true rfl⟩) (List.append_nil _).symm [] rfl rfl (by decide) rfl rfl (Nat.le_of_ble_eq_true rfl) dL_law_9 ⟨Nat.le_of_ble_eq_true rfl, Nat.le_of_ble_eq_true rfl⟩) (List.append_nil _).symm (fun _ => rfl) (fun _ => List.append_nil _) (fun r9 k9 hw9 => ?_)
    obtain ⟨e1, e2⟩ := z_ansN hw9 (c := 3) (if_pos rfl) (by decide)
    have e2 := e2.symm
    subst e2
    refine z_top (y := -1001) e1 ?_
    refine z_sipush (v := (-1001)) F dL_law_12 (by decide) ?_
    refine z_icmp_ne (tgt := 46) F dL_law_15 (by decide) (fun c4 => ?_) (fun c4 => ?_)
    · exact absurd (by decide) c4
    · refine z_aload_n F 1 dL_law_18 rfl rfl ?_
      refine z_sysi (wf := fun k19 => (sysD g a k19 ((fun _ => 0)) o j)) F (z_sysW (X := sysD g a k00 ((fun _ => 0)) o j) (Y := []) (st := []) F ((zEnvL_ok er D g dg ec fs fv qa sw sb sn xs)) E (fun sz => c_L_restore l hl9 D g er dg ec fs fv qa sw sb sn xs a k00 ((fun _ => 0)) o j sz) (vx_cwSW 1 F.1.2.2.2.2 gL_law_L_restore rfl rfl rfl (by decide +kernel) ⟨Nat.le_of_ble_eq_true rfl, Nat.le_of_ble_eq_true rfl⟩) (List.append_nil _).symm [] rfl rfl (by decide) rfl rfl (Nat.le_of_ble_eq_true rfl) dL_law_19 ⟨Nat.le_of_ble_eq_true rfl, Nat.le_of_ble_eq_true rfl⟩) (List.append_nil _).symm (fun _ => rfl) (fun _ => List.append_nil _) (fun r19 k19 hw19 => ?_)
      obtain ⟨e1, e2⟩ := z_ansN hw19 (c := 3) (if_pos rfl) (by decide)
      have e2 := e2.symm
      subst e2
      refine z_top (y := -1001) e1 ?_
      refine z_sipush (v := (-1001)) F dL_law_22 (by decide) ?_
      refine z_icmp_ne (tgt := 46) F dL_law_25 (by decide) (fun c5 => ?_) (fun c5 => ?_)
      · exact absurd (by decide) c5
      · refine z_aload_n F 1 dL_law_28 rfl rfl ?_
        refine z_sysi (wf := fun _ => (sysD g a ((saveK k00)) ((fun _ => 0)) o j)) F (z_sysV (X := sysD g a k00 ((fun _ => 0)) o j) (Y := []) (st := []) F ((zEnvL_ok er D g dg ec fs fv qa sw sb sn xs)) E (fun sz => c_sys_save l D g er dg ec fs fv qa sw sb sn xs a k00 ((fun _ => 0)) o j sz) (cwV 0 F.1.2.2.2.2 gL_law_X10_save rfl rfl rfl (by decide +kernel) ⟨Nat.le_of_ble_eq_true rfl, Nat.le_of_ble_eq_true rfl⟩) 0 rfl rfl rfl (List.append_nil _).symm [] rfl rfl (by decide) rfl rfl (Nat.le_of_ble_eq_true rfl) dL_law_29 ⟨Nat.le_of_ble_eq_true rfl, Nat.le_of_ble_eq_true rfl⟩) (List.append_nil _).symm (fun _ => rfl) (fun _ => List.append_nil _) (fun r29 _ hw29 => ?_)
        refine z_top (y := 0) (hw29) ?_
        refine z_if_ne (tgt := 46) F dL_law_32 (by decide) (fun c6 => ?_) (fun c6 => ?_)
        · exact absurd (by decide) c6
        · refine z_aload_n F 1 dL_law_35 rfl rfl ?_
          refine z_bipush (v := 90) F dL_law_36 (by decide) ?_
          refine z_sysi (wf := fun k38 => (sysD g a k38 ((fun _ => 0)) o j)) F (z_sysW (X := sysD g a ((saveK k00)) ((fun _ => 0)) o j) (Y := []) (st := []) F ((zEnvL_ok er D g dg ec fs fv qa sw sb sn xs)) E (fun sz => c_L_setHaircut l hl9 D g er dg ec fs fv qa sw sb sn xs a ((saveK k00)) ((fun _ => 0)) o j 90 ((show lMc (kL k00) ≤ 8 by decide)) ((show kN k00 < 8 by decide)) ((show kC k00 < 9 by decide)) sz) (vx_cwSW 2 F.1.2.2.2.2 gL_law_L_setHaircut rfl rfl rfl (by decide +kernel) ⟨Nat.le_of_ble_eq_true rfl, Nat.le_of_ble_eq_true rfl⟩) (List.append_nil _).symm [] rfl rfl (by decide) rfl rfl (Nat.le_of_ble_eq_true rfl) dL_law_38 ⟨Nat.le_of_ble_eq_true rfl, Nat.le_of_ble_eq_true rfl⟩) (List.append_nil _).symm (fun _ => rfl) (fun _ => List.append_nil _) (fun r38 k38 hw38 => ?_)
          obtain ⟨e1, e2⟩ := hw38.1 (by decide)
          subst e2
          refine z_ws (ws' := (sysD g a eK1 ((fun _ => 0)) o j)) rfl ?_
          refine z_top (y := 20) (e1) ?_
          refine z_bipush (v := 20) F dL_law_41 (by decide) ?_
          refine z_icmp_eq (tgt := 48) F dL_law_43 (by decide) (fun c7 => ?_) (fun c7 => ?_)
          · refine z_iconst (v := 0) F dL_law_48 (by decide) ?_
            refine z_istore_n (lv' := [(2, .int 0), (0, .ref sb), (1, .ref (a 0))]) F dL_law_49 rfl (by decide) rfl ?_
            have L50 : ∀ (N50_ : Nat) (i : Nat) (x1 : Nat → Int32) (hN50_ : 60 - i < N50_) (hi : i ≤ 60) (hx : ∀ t, t < i → x1 t = t_alf t), zW p l e room_1 s m args below meth c 11 D A Q (200 + i) (3000 + 6 * i) (sysD g a ((inK eK1 i)) x1 o j) [(0, .ref sb), (1, .ref (a 0)), (2, .int (nI i))] [] 50 := by
              intro N50_
              induction N50_ with
              | zero =>
                intro i x1 hN50_
                exact absurd hN50_ (Nat.not_lt_zero _)
              | succ N50_ ih50 =>
                intro i x1 hN50_ hi hx
                refine z_iload_n F 2 dL_law_50 rfl rfl ?_
                refine z_bipush (v := 60) F dL_law_51 (by decide) ?_
                refine z_icmp_ge (tgt := 79) F dL_law_53 (by decide) (fun c8 => ?_) (fun c8 => ?_)
                · have hii : i = 60 := by have := (nI_leI (a := 60) (b := i) (by decide) (by omega)).mp c8; omega
                  subst hii
                  refine z_aload_n F 1 dL_law_79 rfl rfl ?_
                  refine z_bipush (v := 109) F dL_law_80 (by decide) ?_
                  refine z_sysi (wf := fun u82 => (sysD g a u82.1 u82.2 o j)) F (z_sysW (X := sysD g a ((inK eK1 60)) x1 o j) (Y := []) (st := []) F ((zEnvL_ok er D g dg ec fs fv qa sw sb sn xs)) E (fun sz => c_L_feed l hl9 D g er dg ec fs fv qa sw sb sn xs a ((inK eK1 60)) x1 o j 109 ((show 60 ≤ 60 by decide)) sz) (vx_cwSW 2 F.1.2.2.2.2 gL_law_L_feed rfl rfl rfl (by decide +kernel) ⟨Nat.le_of_ble_eq_true rfl, Nat.le_of_ble_eq_true rfl⟩) (List.append_nil _).symm [] rfl rfl (by decide) rfl rfl (Nat.le_of_ble_eq_true rfl) dL_law_82 ⟨by dsimp only [room_1]; omega, by dsimp only [room_1]; omega⟩) (List.append_nil _).symm (fun _ => rfl) (fun _ => List.append_nil _) (fun r82 u82 hw82 => ?_)
                  obtain ⟨k82, x82⟩ := u82
                  try dsimp only at hw82
                  refine z_ws (ws' := (sysD g a k82 x82 o j)) rfl ?_
                  obtain ⟨e1, e2⟩ := z_ansN hw82 (c := 3) (by decide) (by decide)
                  obtain ⟨e2, e3⟩ := Prod.mk.inj e2
                  have e2 := e2.symm
                  subst e2
                  have e3 := e3.symm
                  subst e3
                  refine z_top (y := -1001) (e1) ?_
                  refine z_sipush (v := (-1001)) F dL_law_85 (by decide) ?_
                  refine z_icmp_ne (tgt := 136) F dL_law_88 (by decide) (fun c9 => ?_) (fun c9 => ?_)
                  · exact absurd (by decide) c9
                  · refine z_aload_n F 1 dL_law_91 rfl rfl ?_
                    refine z_sysi (wf := fun u92 => (sysD g a u92.1 x1 o u92.2)) F (z_sysW (X := sysD g a ((inK eK1 60)) x1 o j) (Y := []) (st := []) F ((zEnvL_ok er D g dg ec fs fv qa sw sb sn xs)) E (fun sz => c_L_run l hl9 D g er dg ec fs fv qa sw sb sn xs a ((inK eK1 60)) x1 o j ((show lMc (kL eK1) ≤ 8 by decide)) ((show 60 ≤ 60 by decide)) (hnc) ((show kN eK1 < 8 by decide)) ((show kC eK1 < 9 by decide)) sz) (vx_cwSW 1 F.1.2.2.2.2 gL_law_L_run rfl rfl rfl (by decide +kernel) ⟨Nat.le_of_ble_eq_true rfl, Nat.le_of_ble_eq_true rfl⟩) (List.append_nil _).symm [] rfl rfl (by decide) rfl rfl (Nat.le_of_ble_eq_true rfl) dL_law_92 ⟨by dsimp only [room_1]; omega, by dsimp only [room_1]; omega⟩) (List.append_nil _).symm (fun _ => rfl) (fun _ => List.append_nil _) (fun r92 u92 hw92 => ?_)
                    obtain ⟨k92, j92⟩ := u92
                    try dsimp only at hw92
                    refine z_ws (ws' := (sysD g a k92 x1 o j92)) rfl ?_
                    obtain ⟨e1, e2, hnc92⟩ := t_rE (n := 60) hx rfl t_alf0 (by decide) hw92
                    subst e2
                    refine z_ws (ws' := (sysD g a eK2 x1 o j92)) rfl ?_
                    refine z_top (y := -1001) (e1) ?_
                    refine z_sipush (v := (-1001)) F dL_law_95 (by decide) ?_
                    refine z_icmp_ne (tgt := 136) F dL_law_98 (by decide) (fun c10 => ?_) (fun c10 => ?_)
                    · exact absurd (by decide) c10
                    · refine z_aload_n F 1 dL_law_101 rfl rfl ?_
                      refine z_sysi (wf := fun _ => (sysD g a eK2 x1 o j92)) F (z_sysW (X := sysD g a eK2 x1 o j92) (Y := []) (st := []) F ((zEnvL_ok er D g dg ec fs fv qa sw sb sn xs)) E (fun sz => c_L_errorPosition l D g er dg ec fs fv qa sw sb sn xs a eK2 x1 o j92 ((show ¬ (0 : Int32) = -1 by decide)) sz) (vx_cwSW 1 F.1.2.2.2.2 gL_law_L_errorPosition rfl rfl rfl (by decide +kernel) ⟨Nat.le_of_ble_eq_true rfl, Nat.le_of_ble_eq_true rfl⟩) (List.append_nil _).symm [] rfl rfl (by decide) rfl rfl (Nat.le_of_ble_eq_true rfl) dL_law_102 ⟨by dsimp only [room_1]; omega, by dsimp only [room_1]; omega⟩) (List.append_nil _).symm (fun _ => rfl) (fun _ => List.append_nil _) (fun r102 _ hw102 => ?_)
                      refine z_top hw102 ?_
                      refine z_top (y := 0) (rfl) ?_
                      refine z_if_ne (tgt := 136) F dL_law_105 (by decide) (fun c11 => ?_) (fun c11 => ?_)
                      · exact absurd (by decide) c11
                      · refine z_aload_n F 1 dL_law_108 rfl rfl ?_
                        refine z_bipush (v := 109) F dL_law_109 (by decide) ?_
                        refine z_sysi (wf := fun u111 => (sysD g a u111.1 u111.2 o j92)) F (z_sysW (X := sysD g a eK2 x1 o j92) (Y := []) (st := []) F ((zEnvL_ok er D g dg ec fs fv qa sw sb sn xs)) E (fun sz => c_L_feed l hl9 D g er dg ec fs fv qa sw sb sn xs a eK2 x1 o j92 109 ((show 0 ≤ 60 by decide)) sz) (vx_cwSW 2 F.1.2.2.2.2 gL_law_L_feed rfl rfl rfl (by decide +kernel) ⟨Nat.le_of_ble_eq_true rfl, Nat.le_of_ble_eq_true rfl⟩) (List.append_nil _).symm [] rfl rfl (by decide) rfl rfl (Nat.le_of_ble_eq_true rfl) dL_law_111 ⟨by dsimp only [room_1]; omega, by dsimp only [room_1]; omega⟩) (List.append_nil _).symm (fun _ => rfl) (fun _ => List.append_nil _) (fun r111 u111 hw111 => ?_)
                        obtain ⟨k111, x111⟩ := u111
                        try dsimp only at hw111
                        refine z_ws (ws' := (sysD g a k111 x111 o j92)) rfl ?_
                        obtain ⟨e1, e2, e3⟩ := hw111.1 (by decide)
                        subst e2
                        subst e3
                        refine z_ws (ws' := (sysD g a ((feedK eK2)) ((upd x1 0 (vp_nar .char 109))) o j92)) rfl ?_
                        refine z_top (y := 1) (e1) ?_
                        refine z_iconst (v := 1) F dL_law_114 (by decide) ?_
                        refine z_icmp_ne (tgt := 136) F dL_law_115 (by decide) (fun c12 => ?_) (fun c12 => ?_)
                        · exact absurd (by decide) c12
                        · refine z_aload_n F 1 dL_law_118 rfl rfl ?_
                          refine z_sysi (wf := fun u119 => (sysD g a u119.1 ((upd x1 0 (vp_nar .char 109))) o u119.2)) F (z_sysW (X := sysD g a ((feedK eK2)) ((upd x1 0 (vp_nar .char 109))) o j92) (Y := []) (st := []) F ((zEnvL_ok er D g dg ec fs fv qa sw sb sn xs)) E (fun sz => c_L_run l hl9 D g er dg ec fs fv qa sw sb sn xs a ((feedK eK2)) ((upd x1 0 (vp_nar .char 109))) o j92 ((show lMc (kL eK2) ≤ 8 by decide)) ((show 1 ≤ 60 by decide)) (hnc92) ((show kN eK2 < 8 by decide)) ((show kC eK2 < 9 by decide)) sz) (vx_cwSW 1 F.1.2.2.2.2 gL_law_L_run rfl rfl rfl (by decide +kernel) ⟨Nat.le_of_ble_eq_true rfl, Nat.le_of_ble_eq_true rfl⟩) (List.append_nil _).symm [] rfl rfl (by decide) rfl rfl (Nat.le_of_ble_eq_true rfl) dL_law_119 ⟨by dsimp only [room_1]; omega, by dsimp only [room_1]; omega⟩) (List.append_nil _).symm (fun _ => rfl) (fun _ => List.append_nil _) (fun r119 u119 hw119 => ?_)
                          obtain ⟨k119, j119⟩ := u119
                          try dsimp only at hw119
                          refine z_ws (ws' := (sysD g a k119 ((upd x1 0 (vp_nar .char 109))) o j119)) rfl ?_
                          obtain ⟨e1, e2, hnc119⟩ := t_rE (n := 1) (c := fun _ => 109) (fun t ht => by obtain rfl : t = 0 := (by omega); exact (pk_us).trans (by decide)) rfl t_m1 (by decide) hw119
                          subst e2
                          refine z_ws (ws' := (sysD g a eK3 ((upd x1 0 (vp_nar .char 109))) o j119)) rfl ?_
                          refine z_top (y := -1001) (e1) ?_
                          refine z_sipush (v := (-1001)) F dL_law_122 (by decide) ?_
                          refine z_icmp_ne (tgt := 136) F dL_law_125 (by decide) (fun c13 => ?_) (fun c13 => ?_)
                          · exact absurd (by decide) c13
                          · refine z_aload_n F 1 dL_law_128 rfl rfl ?_
                            refine z_sysi (wf := fun _ => (sysD g a eK3 ((upd x1 0 (vp_nar .char 109))) o j119)) F (z_sysW (X := sysD g a eK3 ((upd x1 0 (vp_nar .char 109))) o j119) (Y := []) (st := []) F ((zEnvL_ok er D g dg ec fs fv qa sw sb sn xs)) E (fun sz => c_L_errorPosition l D g er dg ec fs fv qa sw sb sn xs a eK3 ((upd x1 0 (vp_nar .char 109))) o j119 ((show ¬ (1 : Int32) = -1 by decide)) sz) (vx_cwSW 1 F.1.2.2.2.2 gL_law_L_errorPosition rfl rfl rfl (by decide +kernel) ⟨Nat.le_of_ble_eq_true rfl, Nat.le_of_ble_eq_true rfl⟩) (List.append_nil _).symm [] rfl rfl (by decide) rfl rfl (Nat.le_of_ble_eq_true rfl) dL_law_129 ⟨by dsimp only [room_1]; omega, by dsimp only [room_1]; omega⟩) (List.append_nil _).symm (fun _ => rfl) (fun _ => List.append_nil _) (fun r129 _ hw129 => ?_)
                            refine z_top hw129 ?_
                            refine z_top (y := 1) (rfl) ?_
                            refine z_iconst (v := 1) F dL_law_132 (by decide) ?_
                            refine z_icmp_eq (tgt := 138) F dL_law_133 (by decide) (fun c14 => ?_) (fun c14 => ?_)
                            · refine z_iconst (v := 0) F dL_law_138 (by decide) ?_
                              refine z_istore_n (lv' := [(2, .int 0), (0, .ref sb), (1, .ref (a 0))]) F dL_law_139 rfl (by decide) rfl ?_
                              have L140 : ∀ (N140_ : Nat) (i : Nat) (k1 : zKK) (hN140_ : 8 - i < N140_) (hi : i ≤ 8) (hL : kL k1 = eJ i) (hN : kN k1 < 8) (hC : kC k1 = min (1 + i) 8) (hS : kS k1 = zL0) (hV : kV k1 = 1) (hI : kI k1 = 0), zW p l e room_1 s m args below meth c 11 D A Q (300 + i) (4000 + 6 * i) (sysD g a k1 ((upd x1 0 (vp_nar .char 109))) o j119) [(0, .ref sb), (1, .ref (a 0)), (2, .int (nI i))] [] 140 := by
                                intro N140_
                                induction N140_ with
                                | zero =>
                                  intro i k1 hN140_
                                  exact absurd hN140_ (Nat.not_lt_zero _)
                                | succ N140_ ih140 =>
                                  intro i k1 hN140_ hi hL hN hC hS hV hI
                                  refine z_iload_n F 2 dL_law_140 rfl rfl ?_
                                  refine z_bipush (v := 8) F dL_law_141 (by decide) ?_
                                  refine z_icmp_ge (tgt := 162) F dL_law_143 (by decide) (fun c15 => ?_) (fun c15 => ?_)
                                  · have hii : i = 8 := by have := (nI_leI (a := 8) (b := i) (by decide) (by omega)).mp c15; omega
                                    subst hii
                                    refine z_aload_n F 1 dL_law_162 rfl rfl ?_
                                    refine z_sysi (wf := fun k163 => (sysD g a k163 ((upd x1 0 (vp_nar .char 109))) o j119)) F (z_sysW (X := sysD g a k1 ((upd x1 0 (vp_nar .char 109))) o j119) (Y := []) (st := []) F ((zEnvL_ok er D g dg ec fs fv qa sw sb sn xs)) E (fun sz => c_L_addMember l hl9 D g er dg ec fs fv qa sw sb sn xs a k1 ((upd x1 0 (vp_nar .char 109))) o j119 ((Nat.le_of_eq (by rw [hL]; exact e_j8.2))) (hN) ((by rw [hC]; decide)) sz) (vx_cwSW 1 F.1.2.2.2.2 gL_law_L_addMember rfl rfl rfl (by decide +kernel) ⟨Nat.le_of_ble_eq_true rfl, Nat.le_of_ble_eq_true rfl⟩) (List.append_nil _).symm [] rfl rfl (by decide) rfl rfl (Nat.le_of_ble_eq_true rfl) dL_law_163 ⟨by dsimp only [room_1]; omega, by dsimp only [room_1]; omega⟩) (List.append_nil _).symm (fun _ => rfl) (fun _ => List.append_nil _) (fun r163 k163 hw163 => ?_)
                                    obtain ⟨e1, e2⟩ := z_ansN hw163 (c := 3) (by rw [hL]; exact e_j8.1) (by decide)
                                    have e2 := e2.symm
                                    subst e2
                                    refine z_top (y := -1001) e1 ?_
                                    refine z_sipush (v := (-1001)) F dL_law_166 (by decide) ?_
                                    refine z_icmp_eq (tgt := 174) F dL_law_169 (by decide) (fun c16 => ?_) (fun c16 => ?_)
                                    · refine z_iconst (v := 0) F dL_law_174 (by decide) ?_
                                      refine z_istore_n (lv' := [(2, .int 0), (0, .ref sb), (1, .ref (a 0))]) F dL_law_175 rfl (by decide) rfl ?_
                                      have L176 : ∀ (N176_ : Nat) (i : Nat) (k2 : zKK) (hN176_ : 8 - i < N176_) (hi : i ≤ 8) (hL2 : kL k2 = eD i) (hN2 : kN k2 < 8) (hC2 : kC k2 = 8) (hS2 : kS k2 = zL0) (hV2 : kV k2 = 1) (hI2 : kI k2 = 0) (hH2 : zHs k2 i (fun t L => L = eD (i - 1 - t))), zW p l e room_1 s m args below meth c 11 D A Q (320 + i) (4100 + 6 * i) (sysD g a k2 ((upd x1 0 (vp_nar .char 109))) o j119) [(0, .ref sb), (1, .ref (a 0)), (2, .int (nI i))] [] 176 := by
                                        intro N176_
                                        induction N176_ with
                                        | zero =>
                                          intro i k2 hN176_
                                          exact absurd hN176_ (Nat.not_lt_zero _)
                                        | succ N176_ ih176 =>
                                          intro i k2 hN176_ hi hL2 hN2 hC2 hS2 hV2 hI2 hH2
                                          refine z_iload_n F 2 dL_law_176 rfl rfl ?_
                                          refine z_bipush (v := 8) F dL_law_177 (by decide) ?_
                                          refine z_icmp_ge (tgt := 212) F dL_law_179 (by decide) (fun c17 => ?_) (fun c17 => ?_)
                                          · have hii : i = 8 := by have := (nI_leI (a := 8) (b := i) (by decide) (by omega)).mp c17; omega
                                            subst hii
                                            refine z_aload_n F 1 dL_law_212 rfl rfl ?_
                                            refine z_iconst (v := 0) F dL_law_213 (by decide) ?_
                                            refine z_sysi (wf := fun j214 => (sysD g a k2 ((upd x1 0 (vp_nar .char 109))) o j214)) F (z_sysW (X := sysD g a k2 ((upd x1 0 (vp_nar .char 109))) o j119) (Y := []) (st := []) F ((zEnvL_ok er D g dg ec fs fv qa sw sb sn xs)) E (fun sz => c_L_reachCount l hl9 D g er dg ec fs fv qa sw sb sn xs a k2 ((upd x1 0 (vp_nar .char 109))) o j119 0 ((Nat.le_of_eq (by rw [hL2]; exact e_m8))) sz) (vx_cwSW 2 F.1.2.2.2.2 gL_law_L_reachCount rfl rfl rfl (by decide +kernel) ⟨Nat.le_of_ble_eq_true rfl, Nat.le_of_ble_eq_true rfl⟩) (List.append_nil _).symm [] rfl rfl (by decide) rfl rfl (Nat.le_of_ble_eq_true rfl) dL_law_214 ⟨by dsimp only [room_1]; omega, by dsimp only [room_1]; omega⟩) (List.append_nil _).symm (fun _ => rfl) (fun _ => List.append_nil _) (fun r214 j214 hw214 => ?_)
                                            obtain ⟨e1, e2⟩ := hw214.1 (by rw [hL2]; exact e_rc.1)
                                            refine z_top (y := 7) (by rw [e1, hL2]; exact e_rc.2) ?_
                                            refine z_bipush (v := 7) F dL_law_217 (by decide) ?_
                                            refine z_icmp_ne (tgt := 282) F dL_law_219 (by decide) (fun c18 => ?_) (fun c18 => ?_)
                                            · exact absurd (by decide) c18
                                            · refine z_aload_n F 1 dL_law_222 rfl rfl ?_
                                              refine z_sysi (wf := fun j223 => (sysD g a k2 ((upd x1 0 (vp_nar .char 109))) o j223)) F (z_sysV (X := sysD g a k2 ((upd x1 0 (vp_nar .char 109))) o j214) (Y := []) (st := []) F ((zEnvL_ok er D g dg ec fs fv qa sw sb sn xs)) E (fun sz => c_sys_triangles l D g er dg ec fs fv qa sw sb sn xs a k2 ((upd x1 0 (vp_nar .char 109))) o j214 sz) (cwV 0 F.1.2.2.2.2 gL_law_X10_triangles rfl rfl rfl (by decide +kernel) ⟨Nat.le_of_ble_eq_true rfl, Nat.le_of_ble_eq_true rfl⟩) 0 rfl rfl rfl (List.append_nil _).symm [] rfl rfl (by decide) rfl rfl (Nat.le_of_ble_eq_true rfl) dL_law_223 ⟨by dsimp only [room_1]; omega, by dsimp only [room_1]; omega⟩) (List.append_nil _).symm (fun _ => rfl) (fun _ => List.append_nil _) (fun r223 j223 hw223 => ?_)
                                              refine z_top (y := 0) (by rw [hw223.1, hL2]; exact e_tr) ?_
                                              refine z_if_ne (tgt := 282) F dL_law_226 (by decide) (fun c19 => ?_) (fun c19 => ?_)
                                              · exact absurd (by decide) c19
                                              · refine z_aload_n F 1 dL_law_229 rfl rfl ?_
                                                refine z_bipush (v := 7) F dL_law_230 (by decide) ?_
                                                refine z_sysi (wf := fun u232 => (sysD g a u232.1 ((upd x1 0 (vp_nar .char 109))) o u232.2)) F (z_sysW (X := sysD g a k2 ((upd x1 0 (vp_nar .char 109))) o j223) (Y := []) (st := []) F ((zEnvL_ok er D g dg ec fs fv qa sw sb sn xs)) E (fun sz => c_L_fail l hl9 D g er dg ec fs fv qa sw sb sn xs a k2 ((upd x1 0 (vp_nar .char 109))) o j223 7 ((Nat.le_of_eq (by rw [hL2]; exact e_m8))) (hN2) ((by omega)) sz) (vx_cwSW 2 F.1.2.2.2.2 gL_law_L_fail rfl rfl rfl (by decide +kernel) ⟨Nat.le_of_ble_eq_true rfl, Nat.le_of_ble_eq_true rfl⟩) (List.append_nil _).symm [] rfl rfl (by decide) rfl rfl (Nat.le_of_ble_eq_true rfl) dL_law_232 ⟨by dsimp only [room_1]; omega, by dsimp only [room_1]; omega⟩) (List.append_nil _).symm (fun _ => rfl) (fun _ => List.append_nil _) (fun r232 u232 hw232 => ?_)
                                                obtain ⟨k232, j232⟩ := u232
                                                try dsimp only at hw232
                                                refine z_ws (ws' := (sysD g a k232 ((upd x1 0 (vp_nar .char 109))) o j232)) rfl ?_
                                                obtain ⟨e1, he232, e3⟩ := hw232.1 (by rw [hL2]; exact e_fl.1)
                                                rw [hL2, e_fal] at he232
                                                have he232 : k232 = pushK k2 e18 := he232
                                                have hL232 : kL k232 = e18 := by rw [he232]; rfl
                                                refine z_top (y := 8) (by rw [e1, hL2]; exact e_fl.2) ?_
                                                refine z_bipush (v := 8) F dL_law_235 (by decide) ?_
                                                refine z_icmp_ne (tgt := 282) F dL_law_237 (by decide) (fun c20 => ?_) (fun c20 => ?_)
                                                · exact absurd (by decide) c20
                                                · refine z_aload_n F 1 dL_law_240 rfl rfl ?_
                                                  refine z_iconst (v := 0) F dL_law_241 (by decide) ?_
                                                  refine z_sysi (wf := fun _ => (sysD g a k232 ((upd x1 0 (vp_nar .char 109))) o j232)) F (z_sysW (X := sysD g a k232 ((upd x1 0 (vp_nar .char 109))) o j232) (Y := []) (st := []) F ((zEnvL_ok er D g dg ec fs fv qa sw sb sn xs)) E (fun sz => c_L_coins l hl9 D g er dg ec fs fv qa sw sb sn xs a k232 ((upd x1 0 (vp_nar .char 109))) o j232 0 ((Nat.le_of_eq (by rw [hL232]; exact e_18.1))) sz) (vx_cwSW 2 F.1.2.2.2.2 gL_law_L_coins rfl rfl rfl (by decide +kernel) ⟨Nat.le_of_ble_eq_true rfl, Nat.le_of_ble_eq_true rfl⟩) (List.append_nil _).symm [] rfl rfl (by decide) rfl rfl (Nat.le_of_ble_eq_true rfl) dL_law_242 ⟨by dsimp only [room_1]; omega, by dsimp only [room_1]; omega⟩) (List.append_nil _).symm (fun _ => rfl) (fun _ => List.append_nil _) (fun r242 _ hw242 => ?_)
                                                  refine z_top hw242 ?_
                                                  refine z_top (y := 60) (by rw [hL232]; exact e_18.2.1) ?_
                                                  refine z_bipush (v := 60) F dL_law_245 (by decide) ?_
                                                  refine z_icmp_ne (tgt := 282) F dL_law_247 (by decide) (fun c21 => ?_) (fun c21 => ?_)
                                                  · exact absurd (by decide) c21
                                                  · refine z_aload_n F 1 dL_law_250 rfl rfl ?_
                                                    refine z_sysi (wf := fun j251 => (sysD g a ((pushK k232 (lClr (kL k232)))) ((upd x1 0 (vp_nar .char 109))) o j251)) F (z_sysV (X := sysD g a k232 ((upd x1 0 (vp_nar .char 109))) o j232) (Y := []) (st := []) F ((zEnvL_ok er D g dg ec fs fv qa sw sb sn xs)) E (fun sz => c_sys_clearAll l D g er dg ec fs fv qa sw sb sn xs a k232 ((upd x1 0 (vp_nar .char 109))) o j232 ((Nat.le_of_eq (by rw [hL232]; exact e_18.1))) ((by rw [he232]; exact Nat.mod_lt _ (by decide))) ((by rw [he232]; show min (kC k2 + 1) 8 < 9; omega)) sz) (cwV 0 F.1.2.2.2.2 gL_law_X10_clearAll rfl rfl rfl (by decide +kernel) ⟨Nat.le_of_ble_eq_true rfl, Nat.le_of_ble_eq_true rfl⟩) 0 rfl rfl rfl (List.append_nil _).symm [] rfl rfl (by decide) rfl rfl (Nat.le_of_ble_eq_true rfl) dL_law_251 ⟨by dsimp only [room_1]; omega, by dsimp only [room_1]; omega⟩) (List.append_nil _).symm (fun _ => rfl) (fun _ => List.append_nil _) (fun r251 j251 hw251 => ?_)
                                                    obtain ⟨k251, he251⟩ : ∃ z9, z9 = pushK k232 (lClr (kL k232)) := ⟨_, rfl⟩
                                                    refine z_ws (ws' := (sysD g a k251 ((upd x1 0 (vp_nar .char 109))) o j251)) (by rw [he251]) ?_
                                                    have hL251 : kL k251 = lClr e18 := by rw [he251]; show lClr (kL k232) = _; rw [hL232]
                                                    have hT251 : kC k251 = 8 ∧ kN k251 < 8 ∧ kS k251 = zL0 ∧ kV k251 = 1 ∧ kI k251 = 0 ∧ zHs k251 8 (fun t L => L = eU t) := by rw [he251, he232]; exact ⟨show min (min (kC k2 + 1) 8 + 1) 8 = 8 by omega, Nat.mod_lt _ (by decide), hS2, hV2, hI2, e_hist hH2 hN2 hL2⟩
                                                    refine z_top (y := 7) (hw251.1.trans (by rw [hL232]; exact e_18.2.2)) ?_
                                                    refine z_bipush (v := 7) F dL_law_254 (by decide) ?_
                                                    refine z_icmp_ne (tgt := 282) F dL_law_256 (by decide) (fun c22 => ?_) (fun c22 => ?_)
                                                    · exact absurd (by decide) c22
                                                    · refine z_aload_n F 1 dL_law_259 rfl rfl ?_
                                                      refine z_iconst (v := 0) F dL_law_260 (by decide) ?_
                                                      refine z_bipush (v := 7) F dL_law_261 (by decide) ?_
                                                      refine z_sysi (wf := fun _ => (sysD g a k251 ((upd x1 0 (vp_nar .char 109))) o j251)) F (z_sysW (X := sysD g a k251 ((upd x1 0 (vp_nar .char 109))) o j251) (Y := []) (st := []) F ((zEnvL_ok er D g dg ec fs fv qa sw sb sn xs)) E (fun sz => c_L_owed l hl9 D g er dg ec fs fv qa sw sb sn xs a k251 ((upd x1 0 (vp_nar .char 109))) o j251 0 7 ((Nat.le_of_eq (by rw [hL251]; exact e_19.1))) sz) (vx_cwSW 3 F.1.2.2.2.2 gL_law_L_owed rfl rfl rfl (by decide +kernel) ⟨Nat.le_of_ble_eq_true rfl, Nat.le_of_ble_eq_true rfl⟩) (List.append_nil _).symm [] rfl rfl (by decide) rfl rfl (Nat.le_of_ble_eq_true rfl) dL_law_263 ⟨by dsimp only [room_1]; omega, by dsimp only [room_1]; omega⟩) (List.append_nil _).symm (fun _ => rfl) (fun _ => List.append_nil _) (fun r263 _ hw263 => ?_)
                                                      refine z_top hw263 ?_
                                                      refine z_top (y := 31) (by rw [hL251]; exact e_19.2.1) ?_
                                                      refine z_bipush (v := 31) F dL_law_266 (by decide) ?_
                                                      refine z_icmp_ne (tgt := 282) F dL_law_268 (by decide) (fun c23 => ?_) (fun c23 => ?_)
                                                      · exact absurd (by decide) c23
                                                      · refine z_aload_n F 1 dL_law_271 rfl rfl ?_
                                                        refine z_iconst (v := 1) F dL_law_272 (by decide) ?_
                                                        refine z_bipush (v := 7) F dL_law_273 (by decide) ?_
                                                        refine z_sysi (wf := fun _ => (sysD g a k251 ((upd x1 0 (vp_nar .char 109))) o j251)) F (z_sysW (X := sysD g a k251 ((upd x1 0 (vp_nar .char 109))) o j251) (Y := []) (st := []) F ((zEnvL_ok er D g dg ec fs fv qa sw sb sn xs)) E (fun sz => c_L_owed l hl9 D g er dg ec fs fv qa sw sb sn xs a k251 ((upd x1 0 (vp_nar .char 109))) o j251 1 7 ((Nat.le_of_eq (by rw [hL251]; exact e_19.1))) sz) (vx_cwSW 3 F.1.2.2.2.2 gL_law_L_owed rfl rfl rfl (by decide +kernel) ⟨Nat.le_of_ble_eq_true rfl, Nat.le_of_ble_eq_true rfl⟩) (List.append_nil _).symm [] rfl rfl (by decide) rfl rfl (Nat.le_of_ble_eq_true rfl) dL_law_275 ⟨by dsimp only [room_1]; omega, by dsimp only [room_1]; omega⟩) (List.append_nil _).symm (fun _ => rfl) (fun _ => List.append_nil _) (fun r275 _ hw275 => ?_)
                                                        refine z_top hw275 ?_
                                                        refine z_top (y := 1) (by rw [hL251]; exact e_19.2.2) ?_
                                                        refine z_iconst (v := 1) F dL_law_278 (by decide) ?_
                                                        refine z_icmp_eq (tgt := 284) F dL_law_279 (by decide) (fun c24 => ?_) (fun c24 => ?_)
                                                        · have L284 : ∀ (k3 : zKK) (hC3 : kC k3 = 8) (hN3 : kN k3 < 8) (hS3 : kS k3 = zL0) (hV3 : kV k3 = 1) (hI3 : kI k3 = 0) (hH3 : zHs k3 8 (fun t L => L = eU t)), zW p l e room_1 s m args below meth c 11 D A Q 360 4500 (sysD g a k3 ((upd x1 0 (vp_nar .char 109))) o j251) [(0, .ref sb), (1, .ref (a 0))] [] 284 := by
                                                            intro k3 hC3 hN3 hS3 hV3 hI3 hH3
                                                            refine z_aload_n F 1 dL_law_284 rfl rfl ?_
                                                            refine z_sysi (wf := fun k285 => (sysD g a k285 ((upd x1 0 (vp_nar .char 109))) o j251)) F (z_sysW (X := sysD g a k3 ((upd x1 0 (vp_nar .char 109))) o j251) (Y := []) (st := []) F ((zEnvL_ok er D g dg ec fs fv qa sw sb sn xs)) E (fun sz => c_L_undo l hl9 D g er dg ec fs fv qa sw sb sn xs a k3 ((upd x1 0 (vp_nar .char 109))) o j251 (hN3) ((by omega)) sz) (vx_cwSW 1 F.1.2.2.2.2 gL_law_L_undo rfl rfl rfl (by decide +kernel) ⟨Nat.le_of_ble_eq_true rfl, Nat.le_of_ble_eq_true rfl⟩) (List.append_nil _).symm [] rfl rfl (by decide) rfl rfl (Nat.le_of_ble_eq_true rfl) dL_law_285 ⟨Nat.le_of_ble_eq_true rfl, Nat.le_of_ble_eq_true rfl⟩) (List.append_nil _).symm (fun _ => rfl) (fun _ => List.append_nil _) (fun r285 k285 hw285 => ?_)
                                                            obtain ⟨e1, hC285, hN285, hS285, hV285, hI285, hL285, hH285⟩ := z_undo (n := 7) hw285 hC3 (by decide) hN3 hS3 hV3 hI3 hH3
                                                            have hL285 : kL k285 = e18 := hL285
                                                            refine z_top (y := 7) (e1) ?_
                                                            refine z_bipush (v := 7) F dL_law_288 (by decide) ?_
                                                            refine z_icmp_ne (tgt := 418) F dL_law_290 (by decide) (fun c25 => ?_) (fun c25 => ?_)
                                                            · exact absurd (by decide) c25
                                                            · refine z_aload_n F 1 dL_law_293 rfl rfl ?_
                                                              refine z_bipush (v := 6) F dL_law_294 (by decide) ?_
                                                              refine z_bipush (v := 7) F dL_law_296 (by decide) ?_
                                                              refine z_sysi (wf := fun _ => (sysD g a k285 ((upd x1 0 (vp_nar .char 109))) o j251)) F (z_sysW (X := sysD g a k285 ((upd x1 0 (vp_nar .char 109))) o j251) (Y := []) (st := []) F ((zEnvL_ok er D g dg ec fs fv qa sw sb sn xs)) E (fun sz => c_L_owed l hl9 D g er dg ec fs fv qa sw sb sn xs a k285 ((upd x1 0 (vp_nar .char 109))) o j251 6 7 ((Nat.le_of_eq (by rw [hL285]; exact e_18.1))) sz) (vx_cwSW 3 F.1.2.2.2.2 gL_law_L_owed rfl rfl rfl (by decide +kernel) ⟨Nat.le_of_ble_eq_true rfl, Nat.le_of_ble_eq_true rfl⟩) (List.append_nil _).symm [] rfl rfl (by decide) rfl rfl (Nat.le_of_ble_eq_true rfl) dL_law_298 ⟨Nat.le_of_ble_eq_true rfl, Nat.le_of_ble_eq_true rfl⟩) (List.append_nil _).symm (fun _ => rfl) (fun _ => List.append_nil _) (fun r298 _ hw298 => ?_)
                                                              refine z_top hw298 ?_
                                                              refine z_top (y := 37) (by rw [hL285]; exact e_u1) ?_
                                                              refine z_bipush (v := 37) F dL_law_301 (by decide) ?_
                                                              refine z_icmp_ne (tgt := 418) F dL_law_303 (by decide) (fun c26 => ?_) (fun c26 => ?_)
                                                              · exact absurd (by decide) c26
                                                              · refine z_aload_n F 1 dL_law_306 rfl rfl ?_
                                                                refine z_sysi (wf := fun k307 => (sysD g a k307 ((upd x1 0 (vp_nar .char 109))) o j251)) F (z_sysW (X := sysD g a k285 ((upd x1 0 (vp_nar .char 109))) o j251) (Y := []) (st := []) F ((zEnvL_ok er D g dg ec fs fv qa sw sb sn xs)) E (fun sz => c_L_undo l hl9 D g er dg ec fs fv qa sw sb sn xs a k285 ((upd x1 0 (vp_nar .char 109))) o j251 (hN285) ((by omega)) sz) (vx_cwSW 1 F.1.2.2.2.2 gL_law_L_undo rfl rfl rfl (by decide +kernel) ⟨Nat.le_of_ble_eq_true rfl, Nat.le_of_ble_eq_true rfl⟩) (List.append_nil _).symm [] rfl rfl (by decide) rfl rfl (Nat.le_of_ble_eq_true rfl) dL_law_307 ⟨Nat.le_of_ble_eq_true rfl, Nat.le_of_ble_eq_true rfl⟩) (List.append_nil _).symm (fun _ => rfl) (fun _ => List.append_nil _) (fun r307 k307 hw307 => ?_)
                                                                obtain ⟨e1, hC307, hN307, hS307, hV307, hI307, hL307, hH307⟩ := z_undo (n := 6) hw307 hC285 (by decide) hN285 hS285 hV285 hI285 hH285
                                                                have hL307 : kL k307 = eD 8 := hL307
                                                                refine z_top (y := 6) (e1) ?_
                                                                refine z_bipush (v := 6) F dL_law_310 (by decide) ?_
                                                                refine z_icmp_ne (tgt := 418) F dL_law_312 (by decide) (fun c27 => ?_) (fun c27 => ?_)
                                                                · exact absurd (by decide) c27
                                                                · refine z_aload_n F 1 dL_law_315 rfl rfl ?_
                                                                  refine z_iconst (v := 0) F dL_law_316 (by decide) ?_
                                                                  refine z_sysi (wf := fun _ => (sysD g a k307 ((upd x1 0 (vp_nar .char 109))) o j251)) F (z_sysW (X := sysD g a k307 ((upd x1 0 (vp_nar .char 109))) o j251) (Y := []) (st := []) F ((zEnvL_ok er D g dg ec fs fv qa sw sb sn xs)) E (fun sz => c_L_coins l hl9 D g er dg ec fs fv qa sw sb sn xs a k307 ((upd x1 0 (vp_nar .char 109))) o j251 0 ((Nat.le_of_eq (by rw [hL307]; exact e_m8))) sz) (vx_cwSW 2 F.1.2.2.2.2 gL_law_L_coins rfl rfl rfl (by decide +kernel) ⟨Nat.le_of_ble_eq_true rfl, Nat.le_of_ble_eq_true rfl⟩) (List.append_nil _).symm [] rfl rfl (by decide) rfl rfl (Nat.le_of_ble_eq_true rfl) dL_law_317 ⟨Nat.le_of_ble_eq_true rfl, Nat.le_of_ble_eq_true rfl⟩) (List.append_nil _).symm (fun _ => rfl) (fun _ => List.append_nil _) (fun r317 _ hw317 => ?_)
                                                                  refine z_top hw317 ?_
                                                                  refine z_top (y := 30) (by rw [hL307]; exact e_u2.1) ?_
                                                                  refine z_bipush (v := 30) F dL_law_320 (by decide) ?_
                                                                  refine z_icmp_ne (tgt := 418) F dL_law_322 (by decide) (fun c28 => ?_) (fun c28 => ?_)
                                                                  · exact absurd (by decide) c28
                                                                  · refine z_aload_n F 1 dL_law_325 rfl rfl ?_
                                                                    refine z_bipush (v := 7) F dL_law_326 (by decide) ?_
                                                                    refine z_sysi (wf := fun _ => (sysD g a k307 ((upd x1 0 (vp_nar .char 109))) o j251)) F (z_sysW (X := sysD g a k307 ((upd x1 0 (vp_nar .char 109))) o j251) (Y := []) (st := []) F ((zEnvL_ok er D g dg ec fs fv qa sw sb sn xs)) E (fun sz => c_L_isFailed l hl9 D g er dg ec fs fv qa sw sb sn xs a k307 ((upd x1 0 (vp_nar .char 109))) o j251 7 ((Nat.le_of_eq (by rw [hL307]; exact e_m8))) sz) (vx_cwSW 2 F.1.2.2.2.2 gL_law_L_isFailed rfl rfl rfl (by decide +kernel) ⟨Nat.le_of_ble_eq_true rfl, Nat.le_of_ble_eq_true rfl⟩) (List.append_nil _).symm [] rfl rfl (by decide) rfl rfl (Nat.le_of_ble_eq_true rfl) dL_law_328 ⟨Nat.le_of_ble_eq_true rfl, Nat.le_of_ble_eq_true rfl⟩) (List.append_nil _).symm (fun _ => rfl) (fun _ => List.append_nil _) (fun r328 _ hw328 => ?_)
                                                                    refine z_top hw328 ?_
                                                                    refine z_top (y := 0) (by rw [hL307]; exact e_u2.2) ?_
                                                                    refine z_if_ne (tgt := 418) F dL_law_331 (by decide) (fun c29 => ?_) (fun c29 => ?_)
                                                                    · exact absurd (by decide) c29
                                                                    · refine z_aload_n F 1 dL_law_334 rfl rfl ?_
                                                                      refine z_sysi (wf := fun k335 => (sysD g a k335 ((upd x1 0 (vp_nar .char 109))) o j251)) F (z_sysW (X := sysD g a k307 ((upd x1 0 (vp_nar .char 109))) o j251) (Y := []) (st := []) F ((zEnvL_ok er D g dg ec fs fv qa sw sb sn xs)) E (fun sz => c_L_undo l hl9 D g er dg ec fs fv qa sw sb sn xs a k307 ((upd x1 0 (vp_nar .char 109))) o j251 (hN307) ((by omega)) sz) (vx_cwSW 1 F.1.2.2.2.2 gL_law_L_undo rfl rfl rfl (by decide +kernel) ⟨Nat.le_of_ble_eq_true rfl, Nat.le_of_ble_eq_true rfl⟩) (List.append_nil _).symm [] rfl rfl (by decide) rfl rfl (Nat.le_of_ble_eq_true rfl) dL_law_335 ⟨Nat.le_of_ble_eq_true rfl, Nat.le_of_ble_eq_true rfl⟩) (List.append_nil _).symm (fun _ => rfl) (fun _ => List.append_nil _) (fun r335 k335 hw335 => ?_)
                                                                      obtain ⟨e1, hC335, hN335, hS335, hV335, hI335, hL335, hH335⟩ := z_undo (n := 5) hw335 hC307 (by decide) hN307 hS307 hV307 hI307 hH307
                                                                      have hL335 : kL k335 = eD 7 := hL335
                                                                      refine z_top (y := 5) (e1) ?_
                                                                      refine z_iconst (v := 5) F dL_law_338 (by decide) ?_
                                                                      refine z_icmp_ne (tgt := 418) F dL_law_339 (by decide) (fun c30 => ?_) (fun c30 => ?_)
                                                                      · exact absurd (by decide) c30
                                                                      · refine z_aload_n F 1 dL_law_342 rfl rfl ?_
                                                                        refine z_bipush (v := 7) F dL_law_343 (by decide) ?_
                                                                        refine z_iconst (v := 0) F dL_law_345 (by decide) ?_
                                                                        refine z_sysi (wf := fun _ => (sysD g a k335 ((upd x1 0 (vp_nar .char 109))) o j251)) F (z_sysW (X := sysD g a k335 ((upd x1 0 (vp_nar .char 109))) o j251) (Y := []) (st := []) F ((zEnvL_ok er D g dg ec fs fv qa sw sb sn xs)) E (fun sz => c_L_owed l hl9 D g er dg ec fs fv qa sw sb sn xs a k335 ((upd x1 0 (vp_nar .char 109))) o j251 7 0 ((Nat.le_of_eq (by rw [hL335]; exact e_u3.1))) sz) (vx_cwSW 3 F.1.2.2.2.2 gL_law_L_owed rfl rfl rfl (by decide +kernel) ⟨Nat.le_of_ble_eq_true rfl, Nat.le_of_ble_eq_true rfl⟩) (List.append_nil _).symm [] rfl rfl (by decide) rfl rfl (Nat.le_of_ble_eq_true rfl) dL_law_346 ⟨Nat.le_of_ble_eq_true rfl, Nat.le_of_ble_eq_true rfl⟩) (List.append_nil _).symm (fun _ => rfl) (fun _ => List.append_nil _) (fun r346 _ hw346 => ?_)
                                                                        refine z_top hw346 ?_
                                                                        refine z_top (y := 0) (by rw [hL335]; exact e_u3.2) ?_
                                                                        refine z_if_ne (tgt := 418) F dL_law_349 (by decide) (fun c31 => ?_) (fun c31 => ?_)
                                                                        · exact absurd (by decide) c31
                                                                        · refine z_aload_n F 1 dL_law_352 rfl rfl ?_
                                                                          refine z_sysi (wf := fun k353 => (sysD g a k353 ((upd x1 0 (vp_nar .char 109))) o j251)) F (z_sysW (X := sysD g a k335 ((upd x1 0 (vp_nar .char 109))) o j251) (Y := []) (st := []) F ((zEnvL_ok er D g dg ec fs fv qa sw sb sn xs)) E (fun sz => c_L_undo l hl9 D g er dg ec fs fv qa sw sb sn xs a k335 ((upd x1 0 (vp_nar .char 109))) o j251 (hN335) ((by omega)) sz) (vx_cwSW 1 F.1.2.2.2.2 gL_law_L_undo rfl rfl rfl (by decide +kernel) ⟨Nat.le_of_ble_eq_true rfl, Nat.le_of_ble_eq_true rfl⟩) (List.append_nil _).symm [] rfl rfl (by decide) rfl rfl (Nat.le_of_ble_eq_true rfl) dL_law_353 ⟨Nat.le_of_ble_eq_true rfl, Nat.le_of_ble_eq_true rfl⟩) (List.append_nil _).symm (fun _ => rfl) (fun _ => List.append_nil _) (fun r353 k353 hw353 => ?_)
                                                                          obtain ⟨e1, hC353, hN353, hS353, hV353, hI353, hL353, hH353⟩ := z_undo (n := 4) hw353 hC335 (by decide) hN335 hS335 hV335 hI335 hH335
                                                                          have hL353 : kL k353 = eD 6 := hL353
                                                                          refine z_top (y := 4) (e1) ?_
                                                                          refine z_iconst (v := 4) F dL_law_356 (by decide) ?_
                                                                          refine z_icmp_ne (tgt := 418) F dL_law_357 (by decide) (fun c32 => ?_) (fun c32 => ?_)
                                                                          · exact absurd (by decide) c32
                                                                          · refine z_aload_n F 1 dL_law_360 rfl rfl ?_
                                                                            refine z_sysi (wf := fun k361 => (sysD g a k361 ((upd x1 0 (vp_nar .char 109))) o j251)) F (z_sysW (X := sysD g a k353 ((upd x1 0 (vp_nar .char 109))) o j251) (Y := []) (st := []) F ((zEnvL_ok er D g dg ec fs fv qa sw sb sn xs)) E (fun sz => c_L_undo l hl9 D g er dg ec fs fv qa sw sb sn xs a k353 ((upd x1 0 (vp_nar .char 109))) o j251 (hN353) ((by omega)) sz) (vx_cwSW 1 F.1.2.2.2.2 gL_law_L_undo rfl rfl rfl (by decide +kernel) ⟨Nat.le_of_ble_eq_true rfl, Nat.le_of_ble_eq_true rfl⟩) (List.append_nil _).symm [] rfl rfl (by decide) rfl rfl (Nat.le_of_ble_eq_true rfl) dL_law_361 ⟨Nat.le_of_ble_eq_true rfl, Nat.le_of_ble_eq_true rfl⟩) (List.append_nil _).symm (fun _ => rfl) (fun _ => List.append_nil _) (fun r361 k361 hw361 => ?_)
                                                                            obtain ⟨e1, hC361, hN361, hS361, hV361, hI361, hL361, hH361⟩ := z_undo (n := 3) hw361 hC353 (by decide) hN353 hS353 hV353 hI353 hH353
                                                                            have hL361 : kL k361 = eD 5 := hL361
                                                                            refine z_top (y := 3) (e1) ?_
                                                                            refine z_iconst (v := 3) F dL_law_364 (by decide) ?_
                                                                            refine z_icmp_ne (tgt := 418) F dL_law_365 (by decide) (fun c33 => ?_) (fun c33 => ?_)
                                                                            · exact absurd (by decide) c33
                                                                            · refine z_aload_n F 1 dL_law_368 rfl rfl ?_
                                                                              refine z_sysi (wf := fun k369 => (sysD g a k369 ((upd x1 0 (vp_nar .char 109))) o j251)) F (z_sysW (X := sysD g a k361 ((upd x1 0 (vp_nar .char 109))) o j251) (Y := []) (st := []) F ((zEnvL_ok er D g dg ec fs fv qa sw sb sn xs)) E (fun sz => c_L_undo l hl9 D g er dg ec fs fv qa sw sb sn xs a k361 ((upd x1 0 (vp_nar .char 109))) o j251 (hN361) ((by omega)) sz) (vx_cwSW 1 F.1.2.2.2.2 gL_law_L_undo rfl rfl rfl (by decide +kernel) ⟨Nat.le_of_ble_eq_true rfl, Nat.le_of_ble_eq_true rfl⟩) (List.append_nil _).symm [] rfl rfl (by decide) rfl rfl (Nat.le_of_ble_eq_true rfl) dL_law_369 ⟨Nat.le_of_ble_eq_true rfl, Nat.le_of_ble_eq_true rfl⟩) (List.append_nil _).symm (fun _ => rfl) (fun _ => List.append_nil _) (fun r369 k369 hw369 => ?_)
                                                                              obtain ⟨e1, hC369, hN369, hS369, hV369, hI369, hL369, hH369⟩ := z_undo (n := 2) hw369 hC361 (by decide) hN361 hS361 hV361 hI361 hH361
                                                                              have hL369 : kL k369 = eD 4 := hL369
                                                                              refine z_top (y := 2) (e1) ?_
                                                                              refine z_iconst (v := 2) F dL_law_372 (by decide) ?_
                                                                              refine z_icmp_ne (tgt := 418) F dL_law_373 (by decide) (fun c34 => ?_) (fun c34 => ?_)
                                                                              · exact absurd (by decide) c34
                                                                              · refine z_aload_n F 1 dL_law_376 rfl rfl ?_
                                                                                refine z_sysi (wf := fun k377 => (sysD g a k377 ((upd x1 0 (vp_nar .char 109))) o j251)) F (z_sysW (X := sysD g a k369 ((upd x1 0 (vp_nar .char 109))) o j251) (Y := []) (st := []) F ((zEnvL_ok er D g dg ec fs fv qa sw sb sn xs)) E (fun sz => c_L_undo l hl9 D g er dg ec fs fv qa sw sb sn xs a k369 ((upd x1 0 (vp_nar .char 109))) o j251 (hN369) ((by omega)) sz) (vx_cwSW 1 F.1.2.2.2.2 gL_law_L_undo rfl rfl rfl (by decide +kernel) ⟨Nat.le_of_ble_eq_true rfl, Nat.le_of_ble_eq_true rfl⟩) (List.append_nil _).symm [] rfl rfl (by decide) rfl rfl (Nat.le_of_ble_eq_true rfl) dL_law_377 ⟨Nat.le_of_ble_eq_true rfl, Nat.le_of_ble_eq_true rfl⟩) (List.append_nil _).symm (fun _ => rfl) (fun _ => List.append_nil _) (fun r377 k377 hw377 => ?_)
                                                                                obtain ⟨e1, hC377, hN377, hS377, hV377, hI377, hL377, hH377⟩ := z_undo (n := 1) hw377 hC369 (by decide) hN369 hS369 hV369 hI369 hH369
                                                                                have hL377 : kL k377 = eD 3 := hL377
                                                                                refine z_top (y := 1) (e1) ?_
                                                                                refine z_iconst (v := 1) F dL_law_380 (by decide) ?_
                                                                                refine z_icmp_ne (tgt := 418) F dL_law_381 (by decide) (fun c35 => ?_) (fun c35 => ?_)
                                                                                · exact absurd (by decide) c35
                                                                                · refine z_aload_n F 1 dL_law_384 rfl rfl ?_
                                                                                  refine z_sysi (wf := fun k385 => (sysD g a k385 ((upd x1 0 (vp_nar .char 109))) o j251)) F (z_sysW (X := sysD g a k377 ((upd x1 0 (vp_nar .char 109))) o j251) (Y := []) (st := []) F ((zEnvL_ok er D g dg ec fs fv qa sw sb sn xs)) E (fun sz => c_L_undo l hl9 D g er dg ec fs fv qa sw sb sn xs a k377 ((upd x1 0 (vp_nar .char 109))) o j251 (hN377) ((by omega)) sz) (vx_cwSW 1 F.1.2.2.2.2 gL_law_L_undo rfl rfl rfl (by decide +kernel) ⟨Nat.le_of_ble_eq_true rfl, Nat.le_of_ble_eq_true rfl⟩) (List.append_nil _).symm [] rfl rfl (by decide) rfl rfl (Nat.le_of_ble_eq_true rfl) dL_law_385 ⟨Nat.le_of_ble_eq_true rfl, Nat.le_of_ble_eq_true rfl⟩) (List.append_nil _).symm (fun _ => rfl) (fun _ => List.append_nil _) (fun r385 k385 hw385 => ?_)
                                                                                  obtain ⟨e1, hC385, hN385, hS385, hV385, hI385, hL385, hH385⟩ := z_undo (n := 0) hw385 hC377 (by decide) hN377 hS377 hV377 hI377 hH377
                                                                                  have hL385 : kL k385 = eD 2 := hL385
                                                                                  refine z_top (y := 0) (e1) ?_
                                                                                  refine z_if_ne (tgt := 418) F dL_law_388 (by decide) (fun c36 => ?_) (fun c36 => ?_)
                                                                                  · exact absurd (by decide) c36
                                                                                  · refine z_aload_n F 1 dL_law_391 rfl rfl ?_
                                                                                    refine z_calli0 F (z_runV (st := []) F (zEnv_ok er) E.1.1.1.1 (fun sz => c_X10_debtCount l D g er a (lAm (kL k385)) (lMc (kL k385)) (lHc (kL k385)) (lNe (kL k385)) (lLo (kL k385)) (kV k385) (kE k385) (kF k385) ((Nat.le_of_eq (by rw [hL385]; exact e_u8.2))) sz) (cwV 0 F.1.2.2.2.2 gL_law_X10_debtCount rfl rfl rfl (by decide +kernel) ⟨Nat.le_of_ble_eq_true rfl, Nat.le_of_ble_eq_true rfl⟩) 0 rfl rfl rfl [] [0, 1, 2] rfl rfl (by decide) rfl rfl (Nat.le_of_ble_eq_true rfl) dL_law_392 ⟨Nat.le_of_ble_eq_true rfl, Nat.le_of_ble_eq_true rfl⟩) (fun r38 _ hw37 => ?_)
                                                                                    subst hw37
                                                                                    refine z_top (y := 2) (by rw [hL385]; exact e_u8.1) ?_
                                                                                    refine z_iconst (v := 2) F dL_law_395 (by decide) ?_
                                                                                    refine z_icmp_ne (tgt := 418) F dL_law_396 (by decide) (fun c39 => ?_) (fun c39 => ?_)
                                                                                    · exact absurd (by decide) c39
                                                                                    · refine z_aload_n F 1 dL_law_399 rfl rfl ?_
                                                                                      refine z_calli0 F (z_runV (st := []) F (zEnv_ok er) E.1.1.1.1 (fun sz => c_X10_memberCount l D g er a (lMc (kL k385)) (lHc (kL k385)) (lNe (kL k385)) (lLo (kL k385)) (kV k385) (kE k385) (kF k385) ((Nat.le_of_eq (by rw [hL385]; exact e_u8.2))) sz) (cwV 0 F.1.2.2.2.2 gL_law_X10_memberCount rfl rfl rfl (by decide +kernel) ⟨Nat.le_of_ble_eq_true rfl, Nat.le_of_ble_eq_true rfl⟩) 0 rfl rfl rfl [] [0, 1] rfl rfl (by decide) rfl rfl (Nat.le_of_ble_eq_true rfl) dL_law_400 ⟨Nat.le_of_ble_eq_true rfl, Nat.le_of_ble_eq_true rfl⟩) (fun r41 _ hw40 => ?_)
                                                                                      subst hw40
                                                                                      refine z_top (y := 8) (by rw [hL385]; exact congrArg nI e_u8.2) ?_
                                                                                      refine z_bipush (v := 8) F dL_law_403 (by decide) ?_
                                                                                      refine z_icmp_ne (tgt := 418) F dL_law_405 (by decide) (fun c42 => ?_) (fun c42 => ?_)
                                                                                      · exact absurd (by decide) c42
                                                                                      · refine z_aload_n F 1 dL_law_408 rfl rfl ?_
                                                                                        refine z_sysi (wf := fun k409 => (sysD g a k409 ((upd x1 0 (vp_nar .char 109))) o j251)) F (z_sysW (X := sysD g a k385 ((upd x1 0 (vp_nar .char 109))) o j251) (Y := []) (st := []) F ((zEnvL_ok er D g dg ec fs fv qa sw sb sn xs)) E (fun sz => c_L_undo l hl9 D g er dg ec fs fv qa sw sb sn xs a k385 ((upd x1 0 (vp_nar .char 109))) o j251 (hN385) ((by omega)) sz) (vx_cwSW 1 F.1.2.2.2.2 gL_law_L_undo rfl rfl rfl (by decide +kernel) ⟨Nat.le_of_ble_eq_true rfl, Nat.le_of_ble_eq_true rfl⟩) (List.append_nil _).symm [] rfl rfl (by decide) rfl rfl (Nat.le_of_ble_eq_true rfl) dL_law_409 ⟨Nat.le_of_ble_eq_true rfl, Nat.le_of_ble_eq_true rfl⟩) (List.append_nil _).symm (fun _ => rfl) (fun _ => List.append_nil _) (fun r409 k409 hw409 => ?_)
                                                                                        obtain ⟨e1, e2⟩ := z_undoN hw409 hC385
                                                                                        have e2 := e2.symm
                                                                                        subst e2
                                                                                        refine z_top (y := -1001) (e1) ?_
                                                                                        refine z_sipush (v := (-1001)) F dL_law_412 (by decide) ?_
                                                                                        refine z_icmp_eq (tgt := 420) F dL_law_415 (by decide) (fun c43 => ?_) (fun c43 => ?_)
                                                                                        · refine z_aload_n F 1 dL_law_420 rfl rfl ?_
                                                                                          refine z_sysi (wf := fun k421 => (sysD g a k421 ((upd x1 0 (vp_nar .char 109))) o j251)) F (z_sysW (X := sysD g a k385 ((upd x1 0 (vp_nar .char 109))) o j251) (Y := []) (st := []) F ((zEnvL_ok er D g dg ec fs fv qa sw sb sn xs)) E (fun sz => c_L_restore l hl9 D g er dg ec fs fv qa sw sb sn xs a k385 ((upd x1 0 (vp_nar .char 109))) o j251 sz) (vx_cwSW 1 F.1.2.2.2.2 gL_law_L_restore rfl rfl rfl (by decide +kernel) ⟨Nat.le_of_ble_eq_true rfl, Nat.le_of_ble_eq_true rfl⟩) (List.append_nil _).symm [] rfl rfl (by decide) rfl rfl (Nat.le_of_ble_eq_true rfl) dL_law_421 ⟨Nat.le_of_ble_eq_true rfl, Nat.le_of_ble_eq_true rfl⟩) (List.append_nil _).symm (fun _ => rfl) (fun _ => List.append_nil _) (fun r421 k421 hw421 => ?_)
                                                                                          obtain ⟨e1, e2⟩ := hw421.1 (if_neg (by rw [hV385]; decide))
                                                                                          subst e2
                                                                                          refine z_top (y := 0) (by rw [e1, hS385]; rfl) ?_
                                                                                          refine z_if_ne (tgt := 453) F dL_law_424 (by decide) (fun c44 => ?_) (fun c44 => ?_)
                                                                                          · exact absurd (by decide) c44
                                                                                          · refine z_aload_n F 1 dL_law_427 rfl rfl ?_
                                                                                            refine z_calli0 F (z_runV (st := []) F (zEnv_ok er) E.1.1.1.1 (fun sz => c_X10_memberCount l D g er a (lMc (kL ((backK k385)))) (lHc (kL ((backK k385)))) (lNe (kL ((backK k385)))) (lLo (kL ((backK k385)))) (kV ((backK k385))) (kE ((backK k385))) (kF ((backK k385))) ((by show lMc (kS k385) ≤ 8; rw [hS385]; decide)) sz) (cwV 0 F.1.2.2.2.2 gL_law_X10_memberCount rfl rfl rfl (by decide +kernel) ⟨Nat.le_of_ble_eq_true rfl, Nat.le_of_ble_eq_true rfl⟩) 0 rfl rfl rfl [] [0, 1] rfl rfl (by decide) rfl rfl (Nat.le_of_ble_eq_true rfl) dL_law_428 ⟨Nat.le_of_ble_eq_true rfl, Nat.le_of_ble_eq_true rfl⟩) (fun r46 _ hw45 => ?_)
                                                                                            subst hw45
                                                                                            refine z_top (y := 0) (by rw [show kL (backK k385) = zL0 from hS385]; rfl) ?_
                                                                                            refine z_if_ne (tgt := 453) F dL_law_431 (by decide) (fun c47 => ?_) (fun c47 => ?_)
                                                                                            · exact absurd (by decide) c47
                                                                                            · refine z_aload_n F 1 dL_law_434 rfl rfl ?_
                                                                                              refine z_calli0 F (z_runV (st := []) F (zEnv_ok er) E.1.1.1.1 (fun sz => c_X10_haircut l D g er a (lMc (kL ((backK k385)))) (lHc (kL ((backK k385)))) (lNe (kL ((backK k385)))) (lLo (kL ((backK k385)))) (kV ((backK k385))) (kE ((backK k385))) (kF ((backK k385))) ((by show lMc (kS k385) ≤ 8; rw [hS385]; decide)) sz) (cwV 0 F.1.2.2.2.2 gL_law_X10_haircut rfl rfl rfl (by decide +kernel) ⟨Nat.le_of_ble_eq_true rfl, Nat.le_of_ble_eq_true rfl⟩) 0 rfl rfl rfl [] [0, 1] rfl rfl (by decide) rfl rfl (Nat.le_of_ble_eq_true rfl) dL_law_435 ⟨Nat.le_of_ble_eq_true rfl, Nat.le_of_ble_eq_true rfl⟩) (fun r49 _ hw48 => ?_)
                                                                                              subst hw48
                                                                                              refine z_top (y := 20) (by rw [show kL (backK k385) = zL0 from hS385]; rfl) ?_
                                                                                              refine z_bipush (v := 20) F dL_law_438 (by decide) ?_
                                                                                              refine z_icmp_ne (tgt := 453) F dL_law_440 (by decide) (fun c50 => ?_) (fun c50 => ?_)
                                                                                              · exact absurd (by decide) c50
                                                                                              · refine z_aload_n F 1 dL_law_443 rfl rfl ?_
                                                                                                refine z_sysi (wf := fun k444 => (sysD g a k444 ((upd x1 0 (vp_nar .char 109))) o j251)) F (z_sysW (X := sysD g a ((backK k385)) ((upd x1 0 (vp_nar .char 109))) o j251) (Y := []) (st := []) F ((zEnvL_ok er D g dg ec fs fv qa sw sb sn xs)) E (fun sz => c_L_undo l hl9 D g er dg ec fs fv qa sw sb sn xs a ((backK k385)) ((upd x1 0 (vp_nar .char 109))) o j251 ((show kN k385 < 8 from hN385)) ((show 0 < 9 by decide)) sz) (vx_cwSW 1 F.1.2.2.2.2 gL_law_L_undo rfl rfl rfl (by decide +kernel) ⟨Nat.le_of_ble_eq_true rfl, Nat.le_of_ble_eq_true rfl⟩) (List.append_nil _).symm [] rfl rfl (by decide) rfl rfl (Nat.le_of_ble_eq_true rfl) dL_law_444 ⟨Nat.le_of_ble_eq_true rfl, Nat.le_of_ble_eq_true rfl⟩) (List.append_nil _).symm (fun _ => rfl) (fun _ => List.append_nil _) (fun r444 k444 hw444 => ?_)
                                                                                                obtain ⟨e1, e2⟩ := z_undoN hw444 rfl
                                                                                                have e2 := e2.symm
                                                                                                subst e2
                                                                                                refine z_top (y := -1001) (e1) ?_
                                                                                                refine z_sipush (v := (-1001)) F dL_law_447 (by decide) ?_
                                                                                                refine z_icmp_eq (tgt := 455) F dL_law_450 (by decide) (fun c51 => ?_) (fun c51 => ?_)
                                                                                                · refine z_sub (ws' := []) [] (by decide) rfl ?_
                                                                                                  refine z_loc (lv' := [(0, .ref sb)]) [0] rfl ?_
                                                                                                  refine z_wide (k := 500) (n := 5000) (by first | exact Nat.le_of_ble_eq_true rfl | omega) (by first | exact Nat.le_of_ble_eq_true rfl | omega) ?_
                                                                                                  exact L455
                                                                                                · exact absurd (by decide) c51
                                                                                        · exact absurd (by decide) c43
                                                          refine z_loc (lv' := [(0, .ref sb), (1, .ref (a 0))]) [0, 1] rfl ?_
                                                          refine z_wide (k := 360) (n := 4500) (by first | exact Nat.le_of_ble_eq_true rfl | omega) (by first | exact Nat.le_of_ble_eq_true rfl | omega) ?_
                                                          exact L284 k251 hT251.1 hT251.2.1 hT251.2.2.1 hT251.2.2.2.1 hT251.2.2.2.2.1 hT251.2.2.2.2.2
                                                        · exact absurd (by decide) c24
                                          · have hii : i < 8 := z_lt (by omega) (by decide) c17
                                            refine z_aload_n F 1 dL_law_182 rfl rfl ?_
                                            refine z_iload_n F 2 dL_law_183 rfl rfl ?_
                                            refine z_iload_n F 2 dL_law_184 rfl rfl ?_
                                            refine z_iconst (v := 1) F dL_law_185 (by decide) ?_
                                            refine z_iadd F dL_law_186 ?_
                                            refine z_top (y := nI (i + 1)) (nI_1 i) ?_
                                            refine z_bipush (v := 8) F dL_law_187 (by decide) ?_
                                            refine z_irem F dL_law_189 (by decide) ?_
                                            refine z_top (y := nI ((i + 1) % 8)) (z_modN (n := 8) (by decide) (by decide) (by omega)) ?_
                                            refine z_bipush (v := 31) F dL_law_190 (by decide) ?_
                                            refine z_iload_n F 2 dL_law_192 rfl rfl ?_
                                            refine z_iadd F dL_law_193 ?_
                                            refine z_top (y := nI (31 + i)) (nI_add 31 i) ?_
                                            refine z_sysi (wf := fun k194 => (sysD g a k194 ((upd x1 0 (vp_nar .char 109))) o j119)) F (z_sysW (X := sysD g a k2 ((upd x1 0 (vp_nar .char 109))) o j119) (Y := []) (st := []) F ((zEnvL_ok er D g dg ec fs fv qa sw sb sn xs)) E (fun sz => c_L_addDebt l hl9 D g er dg ec fs fv qa sw sb sn xs a k2 ((upd x1 0 (vp_nar .char 109))) o j119 (nI i) (nI ((i + 1) % 8)) (nI (31 + i)) ((Nat.le_of_eq (by rw [hL2]; exact (e_db i hii).2))) (hN2) ((by omega)) sz) (vx_cwSW 4 F.1.2.2.2.2 gL_law_L_addDebt rfl rfl rfl (by decide +kernel) ⟨Nat.le_of_ble_eq_true rfl, Nat.le_of_ble_eq_true rfl⟩) (List.append_nil _).symm [] rfl rfl (by decide) rfl rfl (Nat.le_of_ble_eq_true rfl) dL_law_194 ⟨by dsimp only [room_1]; omega, by dsimp only [room_1]; omega⟩) (List.append_nil _).symm (fun _ => rfl) (fun _ => List.append_nil _) (fun r194 k194 hw194 => ?_)
                                            obtain ⟨e1, e2⟩ := hw194.1 (by rw [hL2]; exact (e_db i hii).1.1)
                                            subst e2
                                            have e4 : r194 = nI (31 + i) := by rw [e1, hL2]; exact (e_db i hii).1.2
                                            refine z_bipush (v := 31) F dL_law_197 (by decide) ?_
                                            refine z_iload_n F 2 dL_law_199 rfl rfl ?_
                                            refine z_iadd F dL_law_200 ?_
                                            refine z_top (y := nI (31 + i)) (nI_add 31 i) ?_
                                            refine z_icmp_eq (tgt := 206) F dL_law_201 (by decide) (fun c52 => ?_) (fun c52 => ?_)
                                            · refine z_iinc (v := nI (i + 1)) (lv' := [(2, .int (nI (i + 1))), (0, .ref sb), (1, .ref (a 0))]) F dL_law_206 2 rfl (nI_1 i) (by decide) rfl ?_
                                              refine z_goto (tgt := 176) F dL_law_209 (by decide) ?_
                                              refine z_loc (lv' := [(0, .ref sb), (1, .ref (a 0)), (2, .int (nI (i + 1)))]) [1, 2, 0] rfl ?_
                                              refine z_wide (k := 320 + (i + 1)) (n := 4100 + 6 * (i + 1)) (by first | exact Nat.le_of_ble_eq_true rfl | omega) (by first | exact Nat.le_of_ble_eq_true rfl | omega) ?_
                                              exact ih176 (i + 1) ((pushK k2 (lDebt (kL k2) (nI i) (nI ((i + 1) % 8)) (nI (31 + i))))) (by omega) (by omega) (show lDebt (kL k2) _ _ _ = lDebt (eD i) _ _ _ by rw [hL2]) (Nat.mod_lt _ (by decide)) (show min (kC k2 + 1) 8 = 8 by omega) hS2 hV2 hI2 (zHs_push (P' := fun t L => L = eD (i + 1 - 1 - t)) hH2 hN2 hL2 (fun t L _ h => h.trans (congrArg eD (by omega))) (Nat.le_refl _) (by omega))
                                            · exact absurd e4 c52
                                      refine z_loc (lv' := [(0, .ref sb), (1, .ref (a 0)), (2, .int (nI 0))]) [1, 2, 0] rfl ?_
                                      refine z_wide (k := 320 + 0) (n := 4100 + 6 * 0) (by first | exact Nat.le_of_ble_eq_true rfl | omega) (by first | exact Nat.le_of_ble_eq_true rfl | omega) ?_
                                      exact L176 _ 0 k1 (Nat.lt_succ_self _) (by omega) hL hN (hC.trans (by decide)) hS hV hI zHs_0
                                    · exact absurd (by decide) c16
                                  · have hii : i < 8 := z_lt (by omega) (by decide) c15
                                    refine z_aload_n F 1 dL_law_146 rfl rfl ?_
                                    refine z_sysi (wf := fun k147 => (sysD g a k147 ((upd x1 0 (vp_nar .char 109))) o j119)) F (z_sysW (X := sysD g a k1 ((upd x1 0 (vp_nar .char 109))) o j119) (Y := []) (st := []) F ((zEnvL_ok er D g dg ec fs fv qa sw sb sn xs)) E (fun sz => c_L_addMember l hl9 D g er dg ec fs fv qa sw sb sn xs a k1 ((upd x1 0 (vp_nar .char 109))) o j119 ((by rw [hL, (e_jn i hii).2]; omega)) (hN) ((by rw [hC]; omega)) sz) (vx_cwSW 1 F.1.2.2.2.2 gL_law_L_addMember rfl rfl rfl (by decide +kernel) ⟨Nat.le_of_ble_eq_true rfl, Nat.le_of_ble_eq_true rfl⟩) (List.append_nil _).symm [] rfl rfl (by decide) rfl rfl (Nat.le_of_ble_eq_true rfl) dL_law_147 ⟨by dsimp only [room_1]; omega, by dsimp only [room_1]; omega⟩) (List.append_nil _).symm (fun _ => rfl) (fun _ => List.append_nil _) (fun r147 k147 hw147 => ?_)
                                    obtain ⟨e1, e2⟩ := hw147.1 (by rw [hL]; exact (e_jn i hii).1)
                                    subst e2
                                    have e4 : r147 = nI i := by rw [e1, hL, (e_jn i hii).2]
                                    refine z_iload_n F 2 dL_law_150 rfl rfl ?_
                                    refine z_icmp_eq (tgt := 156) F dL_law_151 (by decide) (fun c53 => ?_) (fun c53 => ?_)
                                    · refine z_iinc (v := nI (i + 1)) (lv' := [(2, .int (nI (i + 1))), (0, .ref sb), (1, .ref (a 0))]) F dL_law_156 2 rfl (nI_1 i) (by decide) rfl ?_
                                      refine z_goto (tgt := 140) F dL_law_159 (by decide) ?_
                                      refine z_loc (lv' := [(0, .ref sb), (1, .ref (a 0)), (2, .int (nI (i + 1)))]) [1, 2, 0] rfl ?_
                                      refine z_wide (k := 300 + (i + 1)) (n := 4000 + 6 * (i + 1)) (by first | exact Nat.le_of_ble_eq_true rfl | omega) (by first | exact Nat.le_of_ble_eq_true rfl | omega) ?_
                                      exact ih140 (i + 1) ((pushK k1 (lJoin (kL k1)))) (by omega) (by omega) (show lJoin (kL k1) = lJoin (eJ i) by rw [hL]) (Nat.mod_lt _ (by decide)) (show min (kC k1 + 1) 8 = min (1 + (i + 1)) 8 by omega) hS hV hI
                                    · exact absurd e4 c53
                              refine z_loc (lv' := [(0, .ref sb), (1, .ref (a 0)), (2, .int (nI 0))]) [1, 2, 0] rfl ?_
                              refine z_wide (k := 300 + 0) (n := 4000 + 6 * 0) (by first | exact Nat.le_of_ble_eq_true rfl | omega) (by first | exact Nat.le_of_ble_eq_true rfl | omega) ?_
                              exact L140 _ 0 eK3 (Nat.lt_succ_self _) (by omega) rfl (by decide) rfl rfl rfl rfl
                            · exact absurd (by decide) c14
                · have hii : i < 60 := z_lt (by omega) (by decide) c8
                  refine z_aload_n F 1 dL_law_56 rfl rfl ?_
                  refine z_bipush (v := 65) F dL_law_57 (by decide) ?_
                  refine z_iload_n F 2 dL_law_59 rfl rfl ?_
                  refine z_iadd F dL_law_60 ?_
                  refine z_i2c F dL_law_61 rfl ?_
                  refine z_top (y := nI (65 + i)) ((t_fed i hii).1) ?_
                  refine z_sysi (wf := fun u62 => (sysD g a u62.1 u62.2 o j)) F (z_sysW (X := sysD g a ((inK eK1 i)) x1 o j) (Y := []) (st := []) F ((zEnvL_ok er D g dg ec fs fv qa sw sb sn xs)) E (fun sz => c_L_feed l hl9 D g er dg ec fs fv qa sw sb sn xs a ((inK eK1 i)) x1 o j (nI (65 + i)) ((show i ≤ 60 by omega)) sz) (vx_cwSW 2 F.1.2.2.2.2 gL_law_L_feed rfl rfl rfl (by decide +kernel) ⟨Nat.le_of_ble_eq_true rfl, Nat.le_of_ble_eq_true rfl⟩) (List.append_nil _).symm [] rfl rfl (by decide) rfl rfl (Nat.le_of_ble_eq_true rfl) dL_law_62 ⟨by dsimp only [room_1]; omega, by dsimp only [room_1]; omega⟩) (List.append_nil _).symm (fun _ => rfl) (fun _ => List.append_nil _) (fun r62 u62 hw62 => ?_)
                  obtain ⟨k62, x62⟩ := u62
                  try dsimp only at hw62
                  refine z_ws (ws' := (sysD g a k62 x62 o j)) rfl ?_
                  have hf62 : (if f_full (kI (inK eK1 i)) = 0 then 0 else 3) = 0 := if_pos (z_fullN hii)
                  obtain ⟨e1, e2, e3⟩ := hw62.1 hf62
                  subst e2
                  subst e3
                  have e4 : r62 = nI (i + 1) := e1
                  refine z_ws (ws' := (sysD g a ((inK eK1 (i + 1))) ((upd x1 i (vp_nar .char (nI (65 + i))))) o j)) rfl ?_
                  refine z_iload_n F 2 dL_law_65 rfl rfl ?_
                  refine z_iconst (v := 1) F dL_law_66 (by decide) ?_
                  refine z_iadd F dL_law_67 ?_
                  refine z_icmp_eq (tgt := 73) F dL_law_68 (by decide) (fun c54 => ?_) (fun c54 => ?_)
                  · refine z_iinc (v := nI (i + 1)) (lv' := [(2, .int (nI (i + 1))), (0, .ref sb), (1, .ref (a 0))]) F dL_law_73 2 rfl (nI_1 i) (by decide) rfl ?_
                    refine z_goto (tgt := 50) F dL_law_76 (by decide) ?_
                    refine z_loc (lv' := [(0, .ref sb), (1, .ref (a 0)), (2, .int (nI (i + 1)))]) [1, 2, 0] rfl ?_
                    refine z_wide (k := 200 + (i + 1)) (n := 3000 + 6 * (i + 1)) (by first | exact Nat.le_of_ble_eq_true rfl | omega) (by first | exact Nat.le_of_ble_eq_true rfl | omega) ?_
                    exact ih50 (i + 1) ((upd x1 i (vp_nar .char (nI (65 + i))))) (by omega) (by omega) (z_up hx (t_fed i hii).2)
                  · exact absurd (e4.trans (nI_1 i).symm) c54
            refine z_loc (lv' := [(0, .ref sb), (1, .ref (a 0)), (2, .int (nI 0))]) [1, 2, 0] rfl ?_
            refine z_wide (k := 200 + 0) (n := 3000 + 6 * 0) (by first | exact Nat.le_of_ble_eq_true rfl | omega) (by first | exact Nat.le_of_ble_eq_true rfl | omega) ?_
            exact L50 _ 0 ((fun _ => 0)) (Nat.lt_succ_self _) (by omega) (fun t h => absurd h (Nat.not_lt_zero t))
          · exact absurd (by decide) c7
  refine z_loc (lv' := [(0, .ref sb), (1, .ref (((zAd n1 u3)) 0))]) [1, 0] rfl ?_
  refine z_wide (k := 120) (n := 1700) (by first | exact Nat.le_of_ble_eq_true rfl | omega) (by first | exact Nat.le_of_ble_eq_true rfl | omega) ?_
  exact L8 ((zAd n1 u3)) ((o00 (u3 95))) j00 (show 0 ≤ 16 by decide) (show 16 ≤ 300 by decide) (show 0 ≤ 3 by decide)
