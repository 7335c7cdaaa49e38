/-! CALLS THAT THROW, one after another -/
theorem z_ansN {S : Type} {f c : Nat} {h : Nat → Int32} {good : Int32 → S → Prop} {same : S} {r : Int32} {u : S} (H : zAns f h good same r u) (hf : f = c) (hc : ¬ c = 0) : r = h c ∧ u = same := by
  have := H.2 (by rw [hf]; exact hc)
  rw [hf] at this
  exact this
theorem inK_self {k : zKK} (h : kI k = 0) : inK k 0 = k := by
  have : inK k (kI k) = k := rfl
  rw [h] at this
  exact this
theorem z_thB {b : Int} {k : zKK} {x : Nat} (hM : zMd (lMc (kL k)) b (kL k)) (hx : x < lMc (kL k)) : (0 ≤ (f_debit (lAm (kL k)) (z_n (nI x))).toInt ∧ (f_debit (lAm (kL k)) (z_n (nI x))).toInt ≤ 99) ∧ (lCa (kL k) (z_n (nI x))).toInt ≤ b ∧ lLi (kL k) (z_n (nI x)) = 99 ∧ lCo (kL k) (z_n (nI x)) = 30 ∧ zBo (lBo (kL k)) (z_n (nI x)) = 0 := by
  have h8 : x < 8 := Nat.lt_of_lt_of_le hx hM.1.2
  rw [z_nn h8]
  refine ⟨?_, (hM.2.2.2.2.1 x h8).2, (hM.2.2.1 x hx).1, (hM.2.2.1 x hx).2, ?_⟩
  · rw [z_debitT hM.2.1.1 h8]
    exact ⟨zDn_nn hM.2.1.1 h8 8 (Nat.le_refl 8), hM.2.1.2 x h8⟩
  · unfold zBo
    rw [hM.2.2.2.2.2.1 x h8]
    rfl
theorem z_thA {b : Int} {k : zKK} {x y : Nat} (hM : zMd (lMc (kL k)) b (kL k)) (hx : x < lMc (kL k)) (hy : y < lMc (kL k)) : 0 ≤ (lAm (kL k) (8 * z_n (nI x) + z_n (nI y))).toInt := by
  have h8 := hM.1.2
  rw [z_nn (by omega), z_nn (by omega)]
  exact hM.2.1.1.1 _ (by omega)
set_option maxHeartbeats 4000000 in
set_option maxRecDepth 100000 in
theorem c_L_thrown (l : Launch) (hl9 : l.stackTraces = false) (D : va_G) (g : Nat → ClassId) (er : Nat → Nat) (dg : Nat → Nat) (ec : Nat → Nat) (fs : Nat → Nat) (fv : Nat → Nat) (qa : Nat) (sw : Nat) (sb : Nat) (sn : Nat) (xs : Nat → Int32) (a : Nat → Nat) (k : zKK) (x : Nat → Int32) (o : zOO) (j : zGG) (hFl : zFl) (hM : zMd (lMc (kL k)) 99 (kL k)) (h3 : 3 ≤ lMc (kL k)) (hn : kN k < 8) (hc9 : kC k < 9) (hi0 : kI k = 0) (hbc : oN o ≤ oC o) (hb3 : oC o ≤ 300) (hnc : jnc j ≤ 3) (sz : Nat) : Met l yL_thrown wsL_thrown { frames := 10, cells := 3800, slots := 260000, locals := 223 } (zPc D (gT g) (zEnvL er D g dg ec fs fv qa sw sb sn xs) [.ref (a 0)] (sysD g a k x o j) [] sz) (zQi D (sysD g a k x o j) (fun (r : Int32) (u : zKK × (Nat → Int32) × zOO × zGG) => r = 1 ∧ u.1 = errK k 0 0 ∧ oN u.2.2.1 ≤ oC u.2.2.1 ∧ oC u.2.2.1 ≤ 300 ∧ jnc u.2.2.2 ≤ 3) (fun (u9 : zKK × (Nat → Int32) × zOO × zGG) => (sysD g a u9.1 u9.2.1 u9.2.2.1 u9.2.2.2)) sz) 3800 260000 (va_A (sysD g a k x o j) sz) := by
  refine z_met (y := yL_thrown) (cc := cL_thrown) (nL := 10) (rm := { frames := 10, cells := 3800, slots := 260000, locals := 223 }) (D := D) (tys := gT g) (wr := []) (P0 := zEnvL er D g dg ec fs fv qa sw sb sn xs) (As := [.ref (a 0)]) (ww := (sysD g a k x o j)) (Qc := zQi D (sysD g a k x o j) (fun (r : Int32) (u : zKK × (Nat → Int32) × zOO × zGG) => r = 1 ∧ u.1 = errK k 0 0 ∧ oN u.2.2.1 ≤ oC u.2.2.1 ∧ oC u.2.2.1 ≤ 300 ∧ jnc u.2.2.2 ≤ 3) (fun (u9 : zKK × (Nat → Int32) × zOO × zGG) => (sysD g a u9.1 u9.2.1 u9.2.2.1 u9.2.2.2))) (ret := (some .boolean)) (by decide) rfl (Nat.le_of_ble_eq_true rfl) ?_ sz
  intro p e s m args below meth c A Q hA hQ F E hr hlk hin
  have hm8 := hM.1.2
  have hHM := z_hM hm8
  have hHN := z_hN (lMc (kL k))
  have hH0 := z_h0 h3 hm8
  have hH1 := z_h1 h3 hm8
  show zW p l e { frames := 10, cells := 3800, slots := 260000, locals := 223 } s m args below meth c 10 D A Q 0 0 (sysD g a k x o j) [(0, .ref (a 0))] [] 0
  refine z_aload_n F 0 dL_thrown_0 rfl rfl ?_
  refine z_sysl (wf := fun u1 => (sysD g a k x u1.1 u1.2)) F (z_sysS (X := sysD g a k x o j) (Y := []) (st := []) F ((zEnvL_ok er D g dg ec fs fv qa sw sb sn xs)) E (fun sz => c_L_asks l hl9 D g er dg ec fs fv qa sw sb sn xs a k x o j (hFl) (hm8) ((show 2 ≤ lMc (kL k) by omega)) (hbc) (hb3) sz) (va_cwS 1 F.1.2.2.2.2 gL_thrown_L_asks rfl rfl rfl (by decide +kernel) ⟨Nat.le_of_ble_eq_true rfl, Nat.le_of_ble_eq_true rfl⟩) (List.append_nil _).symm [] rfl rfl (by decide) rfl rfl (Nat.le_of_ble_eq_true rfl) dL_thrown_1 ⟨Nat.le_of_ble_eq_true rfl, Nat.le_of_ble_eq_true rfl⟩) (List.append_nil _).symm (fun _ => rfl) (fun _ => List.append_nil _) (fun r1 u1 hw1 => ?_)
  obtain ⟨o1, j1⟩ := u1
  try dsimp only at hw1
  refine z_ws (ws' := (sysD g a k x o1 j1)) rfl ?_
  have hnc1 : jnc j1 ≤ 3 := by rw [hw1.2.2.2.2]; exact hnc
  refine z_lstore_n (lv' := [(1, .long r1), (0, .ref (a 0))]) F dL_thrown_4 rfl (by decide) rfl ?_
  refine z_aload_n F 1 dL_thrown_5 rfl rfl ?_
  refine z_calli0 F (z_runV (st := []) F (zEnv_ok er) E.1.1.1.1 (fun sz => c_X10_memberCount l D g er a (lMc (kL k)) (lHc (kL k)) (lNe (kL k)) (lLo (kL k)) (kV k) (kE k) (kF k) (by omega) sz) (cwV 0 F.1.2.2.2.2 gL_thrown_X10_memberCount rfl rfl rfl (by decide +kernel) ⟨Nat.le_of_ble_eq_true rfl, Nat.le_of_ble_eq_true rfl⟩) 0 rfl rfl rfl [] [0, 1] rfl rfl (by decide) rfl rfl (Nat.le_of_ble_eq_true rfl) dL_thrown_6 ⟨Nat.le_of_ble_eq_true rfl, Nat.le_of_ble_eq_true rfl⟩) (fun r2 _ hw1 => ?_)
  subst hw1
  refine z_istore_n (lv' := [(3, .int (nI (lMc (kL k)))), (1, .long r1), (0, .ref (a 0))]) F dL_thrown_9 rfl (by decide) rfl ?_
  refine z_aload_n F 2 dL_thrown_10 rfl rfl ?_
  refine z_calli0 F (z_runV (st := []) F (zEnv_ok er) E.1.1.1.1 (fun sz => c_X10_undoCount l D g er a (kN k) (kC k) (kV k) (kE k) (kF k) sz) (cwV 0 F.1.2.2.2.2 gL_thrown_X10_undoCount rfl rfl rfl (by decide +kernel) ⟨Nat.le_of_ble_eq_true rfl, Nat.le_of_ble_eq_true rfl⟩) 0 rfl rfl rfl [] [0, 33] rfl rfl (by decide) rfl rfl (Nat.le_of_ble_eq_true rfl) dL_thrown_11 ⟨Nat.le_of_ble_eq_true rfl, Nat.le_of_ble_eq_true rfl⟩) (fun r4 _ hw3 => ?_)
  subst hw3
  refine z_istore (lv' := [(4, .int (nI (kC k))), (3, .int (nI (lMc (kL k)))), (1, .long r1), (0, .ref (a 0))]) F dL_thrown_14 (by decide) rfl ?_
  have L32 : zW p l e { frames := 10, cells := 3800, slots := 260000, locals := 223 } s m args below meth c 10 D A Q 1541 118406 (sysD g a k x o1 j1) [(0, .ref (a 0)), (1, .long r1), (3, .int (nI (lMc (kL k)))), (4, .int (nI (kC k)))] [] 32 := by
    refine z_aload_n F 0 dL_thrown_32 rfl rfl ?_
    refine z_iload_n F 2 dL_thrown_33 rfl rfl ?_
    refine z_iload_n F 2 dL_thrown_34 rfl rfl ?_
    refine z_iconst (v := 0) F dL_thrown_35 (by decide) ?_
    refine z_sysi (wf := fun k36 => (sysD g a k36 x o1 j1)) F (z_sysW (X := sysD g a k x o1 j1) (Y := []) (st := []) F ((zEnvL_ok er D g dg ec fs fv qa sw sb sn xs)) E (fun sz => c_L_addDebt l hl9 D g er dg ec fs fv qa sw sb sn xs a k x o1 j1 (nI (lMc (kL k))) (nI (lMc (kL k))) 0 (hm8) (hn) (hc9) sz) (vx_cwSW 4 F.1.2.2.2.2 gL_thrown_L_addDebt rfl rfl rfl (by decide +kernel) ⟨Nat.le_of_ble_eq_true rfl, Nat.le_of_ble_eq_true rfl⟩) (List.append_nil _).symm [] rfl rfl (by decide) rfl rfl (Nat.le_of_ble_eq_true rfl) dL_thrown_36 ⟨Nat.le_of_ble_eq_true rfl, Nat.le_of_ble_eq_true rfl⟩) (List.append_nil _).symm (fun _ => rfl) (fun _ => List.append_nil _) (fun r36 k36 hw36 => ?_)
    obtain ⟨e1, e2⟩ := z_ansN hw36 (c := 1) (t_db (t_paP (t_pr1 hHM) (by decide)) (by decide)) (by decide)
    have e2 := e2.symm
    subst e2
    refine z_top (y := -1001) e1 ?_
    refine z_sipush (v := (-1001)) F dL_thrown_39 (by decide) ?_
    refine z_icmp_ne (tgt := 380) F dL_thrown_42 (by decide) (fun c5 => ?_) (fun c5 => ?_)
    · exact absurd (by decide) c5
    · refine z_aload_n F 0 dL_thrown_45 rfl rfl ?_
      refine z_iconst (v := 0) F dL_thrown_46 (by decide) ?_
      refine z_iload_n F 2 dL_thrown_47 rfl rfl ?_
      refine z_iconst (v := 5) F dL_thrown_48 (by decide) ?_
      refine z_sysi (wf := fun k49 => (sysD g a k49 x o1 j1)) F (z_sysW (X := sysD g a k x o1 j1) (Y := []) (st := []) F ((zEnvL_ok er D g dg ec fs fv qa sw sb sn xs)) E (fun sz => c_L_addDebt l hl9 D g er dg ec fs fv qa sw sb sn xs a k x o1 j1 0 (nI (lMc (kL k))) 5 (hm8) (hn) (hc9) sz) (vx_cwSW 4 F.1.2.2.2.2 gL_thrown_L_addDebt rfl rfl rfl (by decide +kernel) ⟨Nat.le_of_ble_eq_true rfl, Nat.le_of_ble_eq_true rfl⟩) (List.append_nil _).symm [] rfl rfl (by decide) rfl rfl (Nat.le_of_ble_eq_true rfl) dL_thrown_49 ⟨Nat.le_of_ble_eq_true rfl, Nat.le_of_ble_eq_true rfl⟩) (List.append_nil _).symm (fun _ => rfl) (fun _ => List.append_nil _) (fun r49 k49 hw49 => ?_)
      obtain ⟨e1, e2⟩ := z_ansN hw49 (c := 1) (t_db (t_paP (t_pr2 hH0 hHM) (by decide)) (by decide)) (by decide)
      have e2 := e2.symm
      subst e2
      refine z_top (y := -1001) e1 ?_
      refine z_sipush (v := (-1001)) F dL_thrown_52 (by decide) ?_
      refine z_icmp_ne (tgt := 380) F dL_thrown_55 (by decide) (fun c6 => ?_) (fun c6 => ?_)
      · exact absurd (by decide) c6
      · refine z_aload_n F 0 dL_thrown_58 rfl rfl ?_
        refine z_iconst (v := 0) F dL_thrown_59 (by decide) ?_
        refine z_iconst (v := 0) F dL_thrown_60 (by decide) ?_
        refine z_iconst (v := 5) F dL_thrown_61 (by decide) ?_
        refine z_sysi (wf := fun k62 => (sysD g a k62 x o1 j1)) F (z_sysW (X := sysD g a k x o1 j1) (Y := []) (st := []) F ((zEnvL_ok er D g dg ec fs fv qa sw sb sn xs)) E (fun sz => c_L_addDebt l hl9 D g er dg ec fs fv qa sw sb sn xs a k x o1 j1 0 0 5 (hm8) (hn) (hc9) sz) (vx_cwSW 4 F.1.2.2.2.2 gL_thrown_L_addDebt rfl rfl rfl (by decide +kernel) ⟨Nat.le_of_ble_eq_true rfl, Nat.le_of_ble_eq_true rfl⟩) (List.append_nil _).symm [] rfl rfl (by decide) rfl rfl (Nat.le_of_ble_eq_true rfl) dL_thrown_62 ⟨Nat.le_of_ble_eq_true rfl, Nat.le_of_ble_eq_true rfl⟩) (List.append_nil _).symm (fun _ => rfl) (fun _ => List.append_nil _) (fun r62 k62 hw62 => ?_)
        obtain ⟨e1, e2⟩ := z_ansN hw62 (c := 2) (t_db (t_paP (t_pr3 hH0 hH0 rfl) (by decide)) (by decide)) (by decide)
        have e2 := e2.symm
        subst e2
        refine z_top (y := -1002) e1 ?_
        refine z_sipush (v := (-1002)) F dL_thrown_65 (by decide) ?_
        refine z_icmp_ne (tgt := 380) F dL_thrown_68 (by decide) (fun c7 => ?_) (fun c7 => ?_)
        · exact absurd (by decide) c7
        · refine z_aload_n F 0 dL_thrown_71 rfl rfl ?_
          refine z_iconst (v := 0) F dL_thrown_72 (by decide) ?_
          refine z_iconst (v := 1) F dL_thrown_73 (by decide) ?_
          refine z_iconst (v := 0) F dL_thrown_74 (by decide) ?_
          refine z_sysi (wf := fun k75 => (sysD g a k75 x o1 j1)) F (z_sysW (X := sysD g a k x o1 j1) (Y := []) (st := []) F ((zEnvL_ok er D g dg ec fs fv qa sw sb sn xs)) E (fun sz => c_L_addDebt l hl9 D g er dg ec fs fv qa sw sb sn xs a k x o1 j1 0 1 0 (hm8) (hn) (hc9) sz) (vx_cwSW 4 F.1.2.2.2.2 gL_thrown_L_addDebt rfl rfl rfl (by decide +kernel) ⟨Nat.le_of_ble_eq_true rfl, Nat.le_of_ble_eq_true rfl⟩) (List.append_nil _).symm [] rfl rfl (by decide) rfl rfl (Nat.le_of_ble_eq_true rfl) dL_thrown_75 ⟨Nat.le_of_ble_eq_true rfl, Nat.le_of_ble_eq_true rfl⟩) (List.append_nil _).symm (fun _ => rfl) (fun _ => List.append_nil _) (fun r75 k75 hw75 => ?_)
          obtain ⟨e1, e2⟩ := z_ansN hw75 (c := 2) (t_db (t_paA (t_pr0 hH0 hH1 (by decide)) (by decide)) (by decide)) (by decide)
          have e2 := e2.symm
          subst e2
          refine z_top (y := -1002) e1 ?_
          refine z_sipush (v := (-1002)) F dL_thrown_78 (by decide) ?_
          refine z_icmp_ne (tgt := 380) F dL_thrown_81 (by decide) (fun c8 => ?_) (fun c8 => ?_)
          · exact absurd (by decide) c8
          · refine z_aload_n F 0 dL_thrown_84 rfl rfl ?_
            refine z_iconst (v := 0) F dL_thrown_85 (by decide) ?_
            refine z_iconst (v := 1) F dL_thrown_86 (by decide) ?_
            refine z_bipush (v := 100) F dL_thrown_87 (by decide) ?_
            refine z_sysi (wf := fun k89 => (sysD g a k89 x o1 j1)) F (z_sysW (X := sysD g a k x o1 j1) (Y := []) (st := []) F ((zEnvL_ok er D g dg ec fs fv qa sw sb sn xs)) E (fun sz => c_L_addDebt l hl9 D g er dg ec fs fv qa sw sb sn xs a k x o1 j1 0 1 100 (hm8) (hn) (hc9) sz) (vx_cwSW 4 F.1.2.2.2.2 gL_thrown_L_addDebt rfl rfl rfl (by decide +kernel) ⟨Nat.le_of_ble_eq_true rfl, Nat.le_of_ble_eq_true rfl⟩) (List.append_nil _).symm [] rfl rfl (by decide) rfl rfl (Nat.le_of_ble_eq_true rfl) dL_thrown_89 ⟨Nat.le_of_ble_eq_true rfl, Nat.le_of_ble_eq_true rfl⟩) (List.append_nil _).symm (fun _ => rfl) (fun _ => List.append_nil _) (fun r89 k89 hw89 => ?_)
            obtain ⟨e1, e2⟩ := z_ansN hw89 (c := 2) (t_db (t_paA (t_pr0 hH0 hH1 (by decide)) (by decide)) (by decide)) (by decide)
            have e2 := e2.symm
            subst e2
            refine z_top (y := -1002) e1 ?_
            refine z_sipush (v := (-1002)) F dL_thrown_92 (by decide) ?_
            refine z_icmp_ne (tgt := 380) F dL_thrown_95 (by decide) (fun c9 => ?_) (fun c9 => ?_)
            · exact absurd (by decide) c9
            · refine z_aload_n F 0 dL_thrown_98 rfl rfl ?_
              refine z_iload_n F 2 dL_thrown_99 rfl rfl ?_
              refine z_iconst (v := 0) F dL_thrown_100 (by decide) ?_
              refine z_iconst (v := 0) F dL_thrown_101 (by decide) ?_
              refine z_sysi (wf := fun k102 => (sysD g a k102 x o1 j1)) F (z_sysW (X := sysD g a k x o1 j1) (Y := []) (st := []) F ((zEnvL_ok er D g dg ec fs fv qa sw sb sn xs)) E (fun sz => c_L_pay l hl9 D g er dg ec fs fv qa sw sb sn xs a k x o1 j1 (nI (lMc (kL k))) 0 0 (hm8) (hn) (hc9) sz) (vx_cwSW 4 F.1.2.2.2.2 gL_thrown_L_pay rfl rfl rfl (by decide +kernel) ⟨Nat.le_of_ble_eq_true rfl, Nat.le_of_ble_eq_true rfl⟩) (List.append_nil _).symm [] rfl rfl (by decide) rfl rfl (Nat.le_of_ble_eq_true rfl) dL_thrown_102 ⟨Nat.le_of_ble_eq_true rfl, Nat.le_of_ble_eq_true rfl⟩) (List.append_nil _).symm (fun _ => rfl) (fun _ => List.append_nil _) (fun r102 k102 hw102 => ?_)
              obtain ⟨e1, e2⟩ := z_ansN hw102 (c := 1) (t_py (t_paP (t_pr1 hHM) (by decide)) (by decide)) (by decide)
              have e2 := e2.symm
              subst e2
              refine z_top (y := -1001) e1 ?_
              refine z_sipush (v := (-1001)) F dL_thrown_105 (by decide) ?_
              refine z_icmp_ne (tgt := 380) F dL_thrown_108 (by decide) (fun c10 => ?_) (fun c10 => ?_)
              · exact absurd (by decide) c10
              · refine z_aload_n F 0 dL_thrown_111 rfl rfl ?_
                refine z_iconst (v := 0) F dL_thrown_112 (by decide) ?_
                refine z_iconst (v := (-1)) F dL_thrown_113 (by decide) ?_
                refine z_iconst (v := 5) F dL_thrown_114 (by decide) ?_
                refine z_sysi (wf := fun k115 => (sysD g a k115 x o1 j1)) F (z_sysW (X := sysD g a k x o1 j1) (Y := []) (st := []) F ((zEnvL_ok er D g dg ec fs fv qa sw sb sn xs)) E (fun sz => c_L_pay l hl9 D g er dg ec fs fv qa sw sb sn xs a k x o1 j1 0 (-1) 5 (hm8) (hn) (hc9) sz) (vx_cwSW 4 F.1.2.2.2.2 gL_thrown_L_pay rfl rfl rfl (by decide +kernel) ⟨Nat.le_of_ble_eq_true rfl, Nat.le_of_ble_eq_true rfl⟩) (List.append_nil _).symm [] rfl rfl (by decide) rfl rfl (Nat.le_of_ble_eq_true rfl) dL_thrown_115 ⟨Nat.le_of_ble_eq_true rfl, Nat.le_of_ble_eq_true rfl⟩) (List.append_nil _).symm (fun _ => rfl) (fun _ => List.append_nil _) (fun r115 k115 hw115 => ?_)
                obtain ⟨e1, e2⟩ := z_ansN hw115 (c := 1) (t_py (t_paP (t_pr2 hH0 hHN) (by decide)) (by decide)) (by decide)
                have e2 := e2.symm
                subst e2
                refine z_top (y := -1001) e1 ?_
                refine z_sipush (v := (-1001)) F dL_thrown_118 (by decide) ?_
                refine z_icmp_ne (tgt := 380) F dL_thrown_121 (by decide) (fun c11 => ?_) (fun c11 => ?_)
                · exact absurd (by decide) c11
                · refine z_aload_n F 0 dL_thrown_124 rfl rfl ?_
                  refine z_iconst (v := 0) F dL_thrown_125 (by decide) ?_
                  refine z_iconst (v := 0) F dL_thrown_126 (by decide) ?_
                  refine z_iconst (v := 5) F dL_thrown_127 (by decide) ?_
                  refine z_sysi (wf := fun k128 => (sysD g a k128 x o1 j1)) F (z_sysW (X := sysD g a k x o1 j1) (Y := []) (st := []) F ((zEnvL_ok er D g dg ec fs fv qa sw sb sn xs)) E (fun sz => c_L_pay l hl9 D g er dg ec fs fv qa sw sb sn xs a k x o1 j1 0 0 5 (hm8) (hn) (hc9) sz) (vx_cwSW 4 F.1.2.2.2.2 gL_thrown_L_pay rfl rfl rfl (by decide +kernel) ⟨Nat.le_of_ble_eq_true rfl, Nat.le_of_ble_eq_true rfl⟩) (List.append_nil _).symm [] rfl rfl (by decide) rfl rfl (Nat.le_of_ble_eq_true rfl) dL_thrown_128 ⟨Nat.le_of_ble_eq_true rfl, Nat.le_of_ble_eq_true rfl⟩) (List.append_nil _).symm (fun _ => rfl) (fun _ => List.append_nil _) (fun r128 k128 hw128 => ?_)
                  obtain ⟨e1, e2⟩ := z_ansN hw128 (c := 2) (t_py (t_paP (t_pr3 hH0 hH0 rfl) (by decide)) (by decide)) (by decide)
                  have e2 := e2.symm
                  subst e2
                  refine z_top (y := -1002) e1 ?_
                  refine z_sipush (v := (-1002)) F dL_thrown_131 (by decide) ?_
                  refine z_icmp_ne (tgt := 380) F dL_thrown_134 (by decide) (fun c12 => ?_) (fun c12 => ?_)
                  · exact absurd (by decide) c12
                  · refine z_aload_n F 0 dL_thrown_137 rfl rfl ?_
                    refine z_iconst (v := 0) F dL_thrown_138 (by decide) ?_
                    refine z_iconst (v := 1) F dL_thrown_139 (by decide) ?_
                    refine z_iconst (v := 0) F dL_thrown_140 (by decide) ?_
                    refine z_sysi (wf := fun k141 => (sysD g a k141 x o1 j1)) F (z_sysW (X := sysD g a k x o1 j1) (Y := []) (st := []) F ((zEnvL_ok er D g dg ec fs fv qa sw sb sn xs)) E (fun sz => c_L_pay l hl9 D g er dg ec fs fv qa sw sb sn xs a k x o1 j1 0 1 0 (hm8) (hn) (hc9) sz) (vx_cwSW 4 F.1.2.2.2.2 gL_thrown_L_pay rfl rfl rfl (by decide +kernel) ⟨Nat.le_of_ble_eq_true rfl, Nat.le_of_ble_eq_true rfl⟩) (List.append_nil _).symm [] rfl rfl (by decide) rfl rfl (Nat.le_of_ble_eq_true rfl) dL_thrown_141 ⟨Nat.le_of_ble_eq_true rfl, Nat.le_of_ble_eq_true rfl⟩) (List.append_nil _).symm (fun _ => rfl) (fun _ => List.append_nil _) (fun r141 k141 hw141 => ?_)
                    obtain ⟨e1, e2⟩ := z_ansN hw141 (c := 2) (t_py (t_paA (t_pr0 hH0 hH1 (by decide)) (by decide)) (by decide)) (by decide)
                    have e2 := e2.symm
                    subst e2
                    refine z_top (y := -1002) e1 ?_
                    refine z_sipush (v := (-1002)) F dL_thrown_144 (by decide) ?_
                    refine z_icmp_ne (tgt := 380) F dL_thrown_147 (by decide) (fun c13 => ?_) (fun c13 => ?_)
                    · exact absurd (by decide) c13
                    · refine z_aload_n F 0 dL_thrown_150 rfl rfl ?_
                      refine z_iconst (v := 0) F dL_thrown_151 (by decide) ?_
                      refine z_iconst (v := 1) F dL_thrown_152 (by decide) ?_
                      refine z_bipush (v := 100) F dL_thrown_153 (by decide) ?_
                      refine z_sysi (wf := fun k155 => (sysD g a k155 x o1 j1)) F (z_sysW (X := sysD g a k x o1 j1) (Y := []) (st := []) F ((zEnvL_ok er D g dg ec fs fv qa sw sb sn xs)) E (fun sz => c_L_pay l hl9 D g er dg ec fs fv qa sw sb sn xs a k x o1 j1 0 1 100 (hm8) (hn) (hc9) sz) (vx_cwSW 4 F.1.2.2.2.2 gL_thrown_L_pay rfl rfl rfl (by decide +kernel) ⟨Nat.le_of_ble_eq_true rfl, Nat.le_of_ble_eq_true rfl⟩) (List.append_nil _).symm [] rfl rfl (by decide) rfl rfl (Nat.le_of_ble_eq_true rfl) dL_thrown_155 ⟨Nat.le_of_ble_eq_true rfl, Nat.le_of_ble_eq_true rfl⟩) (List.append_nil _).symm (fun _ => rfl) (fun _ => List.append_nil _) (fun r155 k155 hw155 => ?_)
                      obtain ⟨e1, e2⟩ := z_ansN hw155 (c := 2) (t_py (t_paA (t_pr0 hH0 hH1 (by decide)) (by decide)) (by decide)) (by decide)
                      have e2 := e2.symm
                      subst e2
                      refine z_top (y := -1002) e1 ?_
                      refine z_sipush (v := (-1002)) F dL_thrown_158 (by decide) ?_
                      refine z_icmp_ne (tgt := 380) F dL_thrown_161 (by decide) (fun c14 => ?_) (fun c14 => ?_)
                      · exact absurd (by decide) c14
                      · refine z_aload_n F 0 dL_thrown_164 rfl rfl ?_
                        refine z_iload_n F 2 dL_thrown_165 rfl rfl ?_
                        refine z_iload_n F 2 dL_thrown_166 rfl rfl ?_
                        refine z_sysi (wf := fun k167 => (sysD g a k167 x o1 j1)) F (z_sysW (X := sysD g a k x o1 j1) (Y := []) (st := []) F ((zEnvL_ok er D g dg ec fs fv qa sw sb sn xs)) E (fun sz => c_L_netPair l hl9 D g er dg ec fs fv qa sw sb sn xs a k x o1 j1 (nI (lMc (kL k))) (nI (lMc (kL k))) (hm8) (hn) (hc9) sz) (vx_cwSW 3 F.1.2.2.2.2 gL_thrown_L_netPair rfl rfl rfl (by decide +kernel) ⟨Nat.le_of_ble_eq_true rfl, Nat.le_of_ble_eq_true rfl⟩) (List.append_nil _).symm [] rfl rfl (by decide) rfl rfl (Nat.le_of_ble_eq_true rfl) dL_thrown_167 ⟨Nat.le_of_ble_eq_true rfl, Nat.le_of_ble_eq_true rfl⟩) (List.append_nil _).symm (fun _ => rfl) (fun _ => List.append_nil _) (fun r167 k167 hw167 => ?_)
                        obtain ⟨e1, e2⟩ := z_ansN hw167 (c := 1) (t_pr1 hHM) (by decide)
                        have e2 := e2.symm
                        subst e2
                        refine z_top (y := -1001) e1 ?_
                        refine z_sipush (v := (-1001)) F dL_thrown_170 (by decide) ?_
                        refine z_icmp_ne (tgt := 380) F dL_thrown_173 (by decide) (fun c15 => ?_) (fun c15 => ?_)
                        · exact absurd (by decide) c15
                        · refine z_aload_n F 0 dL_thrown_176 rfl rfl ?_
                          refine z_iconst (v := 0) F dL_thrown_177 (by decide) ?_
                          refine z_iload_n F 2 dL_thrown_178 rfl rfl ?_
                          refine z_sysi (wf := fun k179 => (sysD g a k179 x o1 j1)) F (z_sysW (X := sysD g a k x o1 j1) (Y := []) (st := []) F ((zEnvL_ok er D g dg ec fs fv qa sw sb sn xs)) E (fun sz => c_L_netPair l hl9 D g er dg ec fs fv qa sw sb sn xs a k x o1 j1 0 (nI (lMc (kL k))) (hm8) (hn) (hc9) sz) (vx_cwSW 3 F.1.2.2.2.2 gL_thrown_L_netPair rfl rfl rfl (by decide +kernel) ⟨Nat.le_of_ble_eq_true rfl, Nat.le_of_ble_eq_true rfl⟩) (List.append_nil _).symm [] rfl rfl (by decide) rfl rfl (Nat.le_of_ble_eq_true rfl) dL_thrown_179 ⟨Nat.le_of_ble_eq_true rfl, Nat.le_of_ble_eq_true rfl⟩) (List.append_nil _).symm (fun _ => rfl) (fun _ => List.append_nil _) (fun r179 k179 hw179 => ?_)
                          obtain ⟨e1, e2⟩ := z_ansN hw179 (c := 1) (t_pr2 hH0 hHM) (by decide)
                          have e2 := e2.symm
                          subst e2
                          refine z_top (y := -1001) e1 ?_
                          refine z_sipush (v := (-1001)) F dL_thrown_182 (by decide) ?_
                          refine z_icmp_ne (tgt := 380) F dL_thrown_185 (by decide) (fun c16 => ?_) (fun c16 => ?_)
                          · exact absurd (by decide) c16
                          · refine z_aload_n F 0 dL_thrown_188 rfl rfl ?_
                            refine z_iconst (v := 1) F dL_thrown_189 (by decide) ?_
                            refine z_iconst (v := 1) F dL_thrown_190 (by decide) ?_
                            refine z_sysi (wf := fun k191 => (sysD g a k191 x o1 j1)) F (z_sysW (X := sysD g a k x o1 j1) (Y := []) (st := []) F ((zEnvL_ok er D g dg ec fs fv qa sw sb sn xs)) E (fun sz => c_L_netPair l hl9 D g er dg ec fs fv qa sw sb sn xs a k x o1 j1 1 1 (hm8) (hn) (hc9) sz) (vx_cwSW 3 F.1.2.2.2.2 gL_thrown_L_netPair rfl rfl rfl (by decide +kernel) ⟨Nat.le_of_ble_eq_true rfl, Nat.le_of_ble_eq_true rfl⟩) (List.append_nil _).symm [] rfl rfl (by decide) rfl rfl (Nat.le_of_ble_eq_true rfl) dL_thrown_191 ⟨Nat.le_of_ble_eq_true rfl, Nat.le_of_ble_eq_true rfl⟩) (List.append_nil _).symm (fun _ => rfl) (fun _ => List.append_nil _) (fun r191 k191 hw191 => ?_)
                            obtain ⟨e1, e2⟩ := z_ansN hw191 (c := 2) (t_pr3 hH1 hH1 rfl) (by decide)
                            have e2 := e2.symm
                            subst e2
                            refine z_top (y := -1002) e1 ?_
                            refine z_sipush (v := (-1002)) F dL_thrown_194 (by decide) ?_
                            refine z_icmp_ne (tgt := 380) F dL_thrown_197 (by decide) (fun c17 => ?_) (fun c17 => ?_)
                            · exact absurd (by decide) c17
                            · refine z_aload_n F 0 dL_thrown_200 rfl rfl ?_
                              refine z_iconst (v := 0) F dL_thrown_201 (by decide) ?_
                              refine z_iconst (v := 1) F dL_thrown_202 (by decide) ?_
                              refine z_iload_n F 2 dL_thrown_203 rfl rfl ?_
                              refine z_sysi (wf := fun k204 => (sysD g a k204 x o1 j1)) F (z_sysW (X := sysD g a k x o1 j1) (Y := []) (st := []) F ((zEnvL_ok er D g dg ec fs fv qa sw sb sn xs)) E (fun sz => c_L_netTriangle l hl9 D g er dg ec fs fv qa sw sb sn xs a k x o1 j1 0 1 (nI (lMc (kL k))) (hm8) (hn) (hc9) sz) (vx_cwSW 4 F.1.2.2.2.2 gL_thrown_L_netTriangle rfl rfl rfl (by decide +kernel) ⟨Nat.le_of_ble_eq_true rfl, Nat.le_of_ble_eq_true rfl⟩) (List.append_nil _).symm [] rfl rfl (by decide) rfl rfl (Nat.le_of_ble_eq_true rfl) dL_thrown_204 ⟨Nat.le_of_ble_eq_true rfl, Nat.le_of_ble_eq_true rfl⟩) (List.append_nil _).symm (fun _ => rfl) (fun _ => List.append_nil _) (fun r204 k204 hw204 => ?_)
                              obtain ⟨e1, e2⟩ := z_ansN hw204 (c := 1) (t_tr1c hH0 hH1 hHM) (by decide)
                              have e2 := e2.symm
                              subst e2
                              refine z_top (y := -1001) e1 ?_
                              refine z_sipush (v := (-1001)) F dL_thrown_207 (by decide) ?_
                              refine z_icmp_ne (tgt := 380) F dL_thrown_210 (by decide) (fun c18 => ?_) (fun c18 => ?_)
                              · exact absurd (by decide) c18
                              · refine z_aload_n F 0 dL_thrown_213 rfl rfl ?_
                                refine z_iload_n F 2 dL_thrown_214 rfl rfl ?_
                                refine z_iconst (v := 0) F dL_thrown_215 (by decide) ?_
                                refine z_iconst (v := 0) F dL_thrown_216 (by decide) ?_
                                refine z_sysi (wf := fun k217 => (sysD g a k217 x o1 j1)) F (z_sysW (X := sysD g a k x o1 j1) (Y := []) (st := []) F ((zEnvL_ok er D g dg ec fs fv qa sw sb sn xs)) E (fun sz => c_L_netTriangle l hl9 D g er dg ec fs fv qa sw sb sn xs a k x o1 j1 (nI (lMc (kL k))) 0 0 (hm8) (hn) (hc9) sz) (vx_cwSW 4 F.1.2.2.2.2 gL_thrown_L_netTriangle rfl rfl rfl (by decide +kernel) ⟨Nat.le_of_ble_eq_true rfl, Nat.le_of_ble_eq_true rfl⟩) (List.append_nil _).symm [] rfl rfl (by decide) rfl rfl (Nat.le_of_ble_eq_true rfl) dL_thrown_217 ⟨Nat.le_of_ble_eq_true rfl, Nat.le_of_ble_eq_true rfl⟩) (List.append_nil _).symm (fun _ => rfl) (fun _ => List.append_nil _) (fun r217 k217 hw217 => ?_)
                                obtain ⟨e1, e2⟩ := z_ansN hw217 (c := 1) (t_tr1 hHM) (by decide)
                                have e2 := e2.symm
                                subst e2
                                refine z_top (y := -1001) e1 ?_
                                refine z_sipush (v := (-1001)) F dL_thrown_220 (by decide) ?_
                                refine z_icmp_ne (tgt := 380) F dL_thrown_223 (by decide) (fun c19 => ?_) (fun c19 => ?_)
                                · exact absurd (by decide) c19
                                · refine z_aload_n F 0 dL_thrown_226 rfl rfl ?_
                                  refine z_iconst (v := 0) F dL_thrown_227 (by decide) ?_
                                  refine z_iconst (v := 1) F dL_thrown_228 (by decide) ?_
                                  refine z_iconst (v := 1) F dL_thrown_229 (by decide) ?_
                                  refine z_sysi (wf := fun k230 => (sysD g a k230 x o1 j1)) F (z_sysW (X := sysD g a k x o1 j1) (Y := []) (st := []) F ((zEnvL_ok er D g dg ec fs fv qa sw sb sn xs)) E (fun sz => c_L_netTriangle l hl9 D g er dg ec fs fv qa sw sb sn xs a k x o1 j1 0 1 1 (hm8) (hn) (hc9) sz) (vx_cwSW 4 F.1.2.2.2.2 gL_thrown_L_netTriangle rfl rfl rfl (by decide +kernel) ⟨Nat.le_of_ble_eq_true rfl, Nat.le_of_ble_eq_true rfl⟩) (List.append_nil _).symm [] rfl rfl (by decide) rfl rfl (Nat.le_of_ble_eq_true rfl) dL_thrown_230 ⟨Nat.le_of_ble_eq_true rfl, Nat.le_of_ble_eq_true rfl⟩) (List.append_nil _).symm (fun _ => rfl) (fun _ => List.append_nil _) (fun r230 k230 hw230 => ?_)
                                  obtain ⟨e1, e2⟩ := z_ansN hw230 (c := 2) (t_tr2 hH0 hH1 hH1 (Or.inr (Or.inl rfl))) (by decide)
                                  have e2 := e2.symm
                                  subst e2
                                  refine z_top (y := -1002) e1 ?_
                                  refine z_sipush (v := (-1002)) F dL_thrown_233 (by decide) ?_
                                  refine z_icmp_ne (tgt := 380) F dL_thrown_236 (by decide) (fun c20 => ?_) (fun c20 => ?_)
                                  · exact absurd (by decide) c20
                                  · refine z_aload_n F 0 dL_thrown_239 rfl rfl ?_
                                    refine z_iconst (v := 0) F dL_thrown_240 (by decide) ?_
                                    refine z_iconst (v := 1) F dL_thrown_241 (by decide) ?_
                                    refine z_iconst (v := 0) F dL_thrown_242 (by decide) ?_
                                    refine z_sysi (wf := fun k243 => (sysD g a k243 x o1 j1)) F (z_sysW (X := sysD g a k x o1 j1) (Y := []) (st := []) F ((zEnvL_ok er D g dg ec fs fv qa sw sb sn xs)) E (fun sz => c_L_netTriangle l hl9 D g er dg ec fs fv qa sw sb sn xs a k x o1 j1 0 1 0 (hm8) (hn) (hc9) sz) (vx_cwSW 4 F.1.2.2.2.2 gL_thrown_L_netTriangle rfl rfl rfl (by decide +kernel) ⟨Nat.le_of_ble_eq_true rfl, Nat.le_of_ble_eq_true rfl⟩) (List.append_nil _).symm [] rfl rfl (by decide) rfl rfl (Nat.le_of_ble_eq_true rfl) dL_thrown_243 ⟨Nat.le_of_ble_eq_true rfl, Nat.le_of_ble_eq_true rfl⟩) (List.append_nil _).symm (fun _ => rfl) (fun _ => List.append_nil _) (fun r243 k243 hw243 => ?_)
                                    obtain ⟨e1, e2⟩ := z_ansN hw243 (c := 2) (t_tr2 hH0 hH1 hH0 (Or.inr (Or.inr rfl))) (by decide)
                                    have e2 := e2.symm
                                    subst e2
                                    refine z_top (y := -1002) e1 ?_
                                    refine z_sipush (v := (-1002)) F dL_thrown_246 (by decide) ?_
                                    refine z_icmp_ne (tgt := 380) F dL_thrown_249 (by decide) (fun c21 => ?_) (fun c21 => ?_)
                                    · exact absurd (by decide) c21
                                    · refine z_aload_n F 0 dL_thrown_252 rfl rfl ?_
                                      refine z_iconst (v := 0) F dL_thrown_253 (by decide) ?_
                                      refine z_iconst (v := 0) F dL_thrown_254 (by decide) ?_
                                      refine z_iconst (v := 1) F dL_thrown_255 (by decide) ?_
                                      refine z_sysi (wf := fun k256 => (sysD g a k256 x o1 j1)) F (z_sysW (X := sysD g a k x o1 j1) (Y := []) (st := []) F ((zEnvL_ok er D g dg ec fs fv qa sw sb sn xs)) E (fun sz => c_L_netTriangle l hl9 D g er dg ec fs fv qa sw sb sn xs a k x o1 j1 0 0 1 (hm8) (hn) (hc9) sz) (vx_cwSW 4 F.1.2.2.2.2 gL_thrown_L_netTriangle rfl rfl rfl (by decide +kernel) ⟨Nat.le_of_ble_eq_true rfl, Nat.le_of_ble_eq_true rfl⟩) (List.append_nil _).symm [] rfl rfl (by decide) rfl rfl (Nat.le_of_ble_eq_true rfl) dL_thrown_256 ⟨Nat.le_of_ble_eq_true rfl, Nat.le_of_ble_eq_true rfl⟩) (List.append_nil _).symm (fun _ => rfl) (fun _ => List.append_nil _) (fun r256 k256 hw256 => ?_)
                                      obtain ⟨e1, e2⟩ := z_ansN hw256 (c := 2) (t_tr2 hH0 hH0 hH1 (Or.inl rfl)) (by decide)
                                      have e2 := e2.symm
                                      subst e2
                                      refine z_top (y := -1002) e1 ?_
                                      refine z_sipush (v := (-1002)) F dL_thrown_259 (by decide) ?_
                                      refine z_icmp_ne (tgt := 380) F dL_thrown_262 (by decide) (fun c22 => ?_) (fun c22 => ?_)
                                      · exact absurd (by decide) c22
                                      · refine z_aload_n F 0 dL_thrown_265 rfl rfl ?_
                                        refine z_iload_n F 2 dL_thrown_266 rfl rfl ?_
                                        refine z_iconst (v := 0) F dL_thrown_267 (by decide) ?_
                                        refine z_sysi (wf := fun k268 => (sysD g a k268 x o1 j1)) F (z_sysW (X := sysD g a k x o1 j1) (Y := []) (st := []) F ((zEnvL_ok er D g dg ec fs fv qa sw sb sn xs)) E (fun sz => c_L_pledge l hl9 D g er dg ec fs fv qa sw sb sn xs a k x o1 j1 (nI (lMc (kL k))) 0 (hm8) (hn) (hc9) sz) (vx_cwSW 3 F.1.2.2.2.2 gL_thrown_L_pledge rfl rfl rfl (by decide +kernel) ⟨Nat.le_of_ble_eq_true rfl, Nat.le_of_ble_eq_true rfl⟩) (List.append_nil _).symm [] rfl rfl (by decide) rfl rfl (Nat.le_of_ble_eq_true rfl) dL_thrown_268 ⟨Nat.le_of_ble_eq_true rfl, Nat.le_of_ble_eq_true rfl⟩) (List.append_nil _).symm (fun _ => rfl) (fun _ => List.append_nil _) (fun r268 k268 hw268 => ?_)
                                        obtain ⟨e1, e2⟩ := z_ansN hw268 (c := 1) (t_pl1 hHM) (by decide)
                                        have e2 := e2.symm
                                        subst e2
                                        refine z_top (y := -1001) e1 ?_
                                        refine z_sipush (v := (-1001)) F dL_thrown_271 (by decide) ?_
                                        refine z_icmp_ne (tgt := 380) F dL_thrown_274 (by decide) (fun c23 => ?_) (fun c23 => ?_)
                                        · exact absurd (by decide) c23
                                        · refine z_aload_n F 0 dL_thrown_277 rfl rfl ?_
                                          refine z_iconst (v := 0) F dL_thrown_278 (by decide) ?_
                                          refine z_iconst (v := 0) F dL_thrown_279 (by decide) ?_
                                          refine z_sysi (wf := fun k280 => (sysD g a k280 x o1 j1)) F (z_sysW (X := sysD g a k x o1 j1) (Y := []) (st := []) F ((zEnvL_ok er D g dg ec fs fv qa sw sb sn xs)) E (fun sz => c_L_pledge l hl9 D g er dg ec fs fv qa sw sb sn xs a k x o1 j1 0 0 (hm8) (hn) (hc9) sz) (vx_cwSW 3 F.1.2.2.2.2 gL_thrown_L_pledge rfl rfl rfl (by decide +kernel) ⟨Nat.le_of_ble_eq_true rfl, Nat.le_of_ble_eq_true rfl⟩) (List.append_nil _).symm [] rfl rfl (by decide) rfl rfl (Nat.le_of_ble_eq_true rfl) dL_thrown_280 ⟨Nat.le_of_ble_eq_true rfl, Nat.le_of_ble_eq_true rfl⟩) (List.append_nil _).symm (fun _ => rfl) (fun _ => List.append_nil _) (fun r280 k280 hw280 => ?_)
                                          obtain ⟨e1, e2⟩ := z_ansN hw280 (c := 2) (t_pl2 hH0 (by decide)) (by decide)
                                          have e2 := e2.symm
                                          subst e2
                                          refine z_top (y := -1002) e1 ?_
                                          refine z_sipush (v := (-1002)) F dL_thrown_283 (by decide) ?_
                                          refine z_icmp_ne (tgt := 380) F dL_thrown_286 (by decide) (fun c24 => ?_) (fun c24 => ?_)
                                          · exact absurd (by decide) c24
                                          · refine z_aload_n F 0 dL_thrown_289 rfl rfl ?_
                                            refine z_iconst (v := 0) F dL_thrown_290 (by decide) ?_
                                            refine z_bipush (v := 100) F dL_thrown_291 (by decide) ?_
                                            refine z_sysi (wf := fun k293 => (sysD g a k293 x o1 j1)) F (z_sysW (X := sysD g a k x o1 j1) (Y := []) (st := []) F ((zEnvL_ok er D g dg ec fs fv qa sw sb sn xs)) E (fun sz => c_L_pledge l hl9 D g er dg ec fs fv qa sw sb sn xs a k x o1 j1 0 100 (hm8) (hn) (hc9) sz) (vx_cwSW 3 F.1.2.2.2.2 gL_thrown_L_pledge rfl rfl rfl (by decide +kernel) ⟨Nat.le_of_ble_eq_true rfl, Nat.le_of_ble_eq_true rfl⟩) (List.append_nil _).symm [] rfl rfl (by decide) rfl rfl (Nat.le_of_ble_eq_true rfl) dL_thrown_293 ⟨Nat.le_of_ble_eq_true rfl, Nat.le_of_ble_eq_true rfl⟩) (List.append_nil _).symm (fun _ => rfl) (fun _ => List.append_nil _) (fun r293 k293 hw293 => ?_)
                                            obtain ⟨e1, e2⟩ := z_ansN hw293 (c := 2) (t_pl2 hH0 (by decide)) (by decide)
                                            have e2 := e2.symm
                                            subst e2
                                            refine z_top (y := -1002) e1 ?_
                                            refine z_sipush (v := (-1002)) F dL_thrown_296 (by decide) ?_
                                            refine z_icmp_ne (tgt := 380) F dL_thrown_299 (by decide) (fun c25 => ?_) (fun c25 => ?_)
                                            · exact absurd (by decide) c25
                                            · refine z_aload_n F 0 dL_thrown_302 rfl rfl ?_
                                              refine z_iload_n F 2 dL_thrown_303 rfl rfl ?_
                                              refine z_sipush (v := 900) F dL_thrown_304 (by decide) ?_
                                              refine z_sysi (wf := fun k307 => (sysD g a k307 x o1 j1)) F (z_sysW (X := sysD g a k x o1 j1) (Y := []) (st := []) F ((zEnvL_ok er D g dg ec fs fv qa sw sb sn xs)) E (fun sz => c_L_setLimit l hl9 D g er dg ec fs fv qa sw sb sn xs a k x o1 j1 (nI (lMc (kL k))) 900 (hm8) (hn) (hc9) sz) (vx_cwSW 3 F.1.2.2.2.2 gL_thrown_L_setLimit rfl rfl rfl (by decide +kernel) ⟨Nat.le_of_ble_eq_true rfl, Nat.le_of_ble_eq_true rfl⟩) (List.append_nil _).symm [] rfl rfl (by decide) rfl rfl (Nat.le_of_ble_eq_true rfl) dL_thrown_307 ⟨Nat.le_of_ble_eq_true rfl, Nat.le_of_ble_eq_true rfl⟩) (List.append_nil _).symm (fun _ => rfl) (fun _ => List.append_nil _) (fun r307 k307 hw307 => ?_)
                                              obtain ⟨e1, e2⟩ := z_ansN hw307 (c := 1) (t_li1 hHM) (by decide)
                                              have e2 := e2.symm
                                              subst e2
                                              refine z_top (y := -1001) e1 ?_
                                              refine z_sipush (v := (-1001)) F dL_thrown_310 (by decide) ?_
                                              refine z_icmp_ne (tgt := 380) F dL_thrown_313 (by decide) (fun c26 => ?_) (fun c26 => ?_)
                                              · exact absurd (by decide) c26
                                              · refine z_aload_n F 0 dL_thrown_316 rfl rfl ?_
                                                refine z_iconst (v := 0) F dL_thrown_317 (by decide) ?_
                                                refine z_iconst (v := (-1)) F dL_thrown_318 (by decide) ?_
                                                refine z_sysi (wf := fun k319 => (sysD g a k319 x o1 j1)) F (z_sysW (X := sysD g a k x o1 j1) (Y := []) (st := []) F ((zEnvL_ok er D g dg ec fs fv qa sw sb sn xs)) E (fun sz => c_L_setLimit l hl9 D g er dg ec fs fv qa sw sb sn xs a k x o1 j1 0 (-1) (hm8) (hn) (hc9) sz) (vx_cwSW 3 F.1.2.2.2.2 gL_thrown_L_setLimit rfl rfl rfl (by decide +kernel) ⟨Nat.le_of_ble_eq_true rfl, Nat.le_of_ble_eq_true rfl⟩) (List.append_nil _).symm [] rfl rfl (by decide) rfl rfl (Nat.le_of_ble_eq_true rfl) dL_thrown_319 ⟨Nat.le_of_ble_eq_true rfl, Nat.le_of_ble_eq_true rfl⟩) (List.append_nil _).symm (fun _ => rfl) (fun _ => List.append_nil _) (fun r319 k319 hw319 => ?_)
                                                obtain ⟨e1, e2⟩ := z_ansN hw319 (c := 2) (t_li2 hH0 (Or.inl (by decide))) (by decide)
                                                have e2 := e2.symm
                                                subst e2
                                                refine z_top (y := -1002) e1 ?_
                                                refine z_sipush (v := (-1002)) F dL_thrown_322 (by decide) ?_
                                                refine z_icmp_ne (tgt := 380) F dL_thrown_325 (by decide) (fun c27 => ?_) (fun c27 => ?_)
                                                · exact absurd (by decide) c27
                                                · refine z_aload_n F 0 dL_thrown_328 rfl rfl ?_
                                                  refine z_iconst (v := 0) F dL_thrown_329 (by decide) ?_
                                                  refine z_sipush (v := 501) F dL_thrown_330 (by decide) ?_
                                                  refine z_sysi (wf := fun k333 => (sysD g a k333 x o1 j1)) F (z_sysW (X := sysD g a k x o1 j1) (Y := []) (st := []) F ((zEnvL_ok er D g dg ec fs fv qa sw sb sn xs)) E (fun sz => c_L_setLimit l hl9 D g er dg ec fs fv qa sw sb sn xs a k x o1 j1 0 501 (hm8) (hn) (hc9) sz) (vx_cwSW 3 F.1.2.2.2.2 gL_thrown_L_setLimit rfl rfl rfl (by decide +kernel) ⟨Nat.le_of_ble_eq_true rfl, Nat.le_of_ble_eq_true rfl⟩) (List.append_nil _).symm [] rfl rfl (by decide) rfl rfl (Nat.le_of_ble_eq_true rfl) dL_thrown_333 ⟨Nat.le_of_ble_eq_true rfl, Nat.le_of_ble_eq_true rfl⟩) (List.append_nil _).symm (fun _ => rfl) (fun _ => List.append_nil _) (fun r333 k333 hw333 => ?_)
                                                  obtain ⟨e1, e2⟩ := z_ansN hw333 (c := 2) (t_li2 hH0 (Or.inr (by decide))) (by decide)
                                                  have e2 := e2.symm
                                                  subst e2
                                                  refine z_top (y := -1002) e1 ?_
                                                  refine z_sipush (v := (-1002)) F dL_thrown_336 (by decide) ?_
                                                  refine z_icmp_ne (tgt := 380) F dL_thrown_339 (by decide) (fun c28 => ?_) (fun c28 => ?_)
                                                  · exact absurd (by decide) c28
                                                  · refine z_aload_n F 0 dL_thrown_342 rfl rfl ?_
                                                    refine z_iconst (v := (-1)) F dL_thrown_343 (by decide) ?_
                                                    refine z_sysi (wf := fun k344 => (sysD g a k344 x o1 j1)) F (z_sysW (X := sysD g a k x o1 j1) (Y := []) (st := []) F ((zEnvL_ok er D g dg ec fs fv qa sw sb sn xs)) E (fun sz => c_L_setHaircut l hl9 D g er dg ec fs fv qa sw sb sn xs a k x o1 j1 (-1) (hm8) (hn) (hc9) sz) (vx_cwSW 2 F.1.2.2.2.2 gL_thrown_L_setHaircut rfl rfl rfl (by decide +kernel) ⟨Nat.le_of_ble_eq_true rfl, Nat.le_of_ble_eq_true rfl⟩) (List.append_nil _).symm [] rfl rfl (by decide) rfl rfl (Nat.le_of_ble_eq_true rfl) dL_thrown_344 ⟨Nat.le_of_ble_eq_true rfl, Nat.le_of_ble_eq_true rfl⟩) (List.append_nil _).symm (fun _ => rfl) (fun _ => List.append_nil _) (fun r344 k344 hw344 => ?_)
                                                    obtain ⟨e1, e2⟩ := z_ansN hw344 (c := 2) ((by decide : f_onHc (-1) = 2)) (by decide)
                                                    have e2 := e2.symm
                                                    subst e2
                                                    refine z_top (y := -1001) e1 ?_
                                                    refine z_sipush (v := (-1001)) F dL_thrown_347 (by decide) ?_
                                                    refine z_icmp_ne (tgt := 380) F dL_thrown_350 (by decide) (fun c29 => ?_) (fun c29 => ?_)
                                                    · exact absurd (by decide) c29
                                                    · refine z_aload_n F 0 dL_thrown_353 rfl rfl ?_
                                                      refine z_bipush (v := 91) F dL_thrown_354 (by decide) ?_
                                                      refine z_sysi (wf := fun k356 => (sysD g a k356 x o1 j1)) F (z_sysW (X := sysD g a k x o1 j1) (Y := []) (st := []) F ((zEnvL_ok er D g dg ec fs fv qa sw sb sn xs)) E (fun sz => c_L_setHaircut l hl9 D g er dg ec fs fv qa sw sb sn xs a k x o1 j1 91 (hm8) (hn) (hc9) sz) (vx_cwSW 2 F.1.2.2.2.2 gL_thrown_L_setHaircut rfl rfl rfl (by decide +kernel) ⟨Nat.le_of_ble_eq_true rfl, Nat.le_of_ble_eq_true rfl⟩) (List.append_nil _).symm [] rfl rfl (by decide) rfl rfl (Nat.le_of_ble_eq_true rfl) dL_thrown_356 ⟨Nat.le_of_ble_eq_true rfl, Nat.le_of_ble_eq_true rfl⟩) (List.append_nil _).symm (fun _ => rfl) (fun _ => List.append_nil _) (fun r356 k356 hw356 => ?_)
                                                      obtain ⟨e1, e2⟩ := z_ansN hw356 (c := 2) ((by decide : f_onHc 91 = 2)) (by decide)
                                                      have e2 := e2.symm
                                                      subst e2
                                                      refine z_top (y := -1001) e1 ?_
                                                      refine z_sipush (v := (-1001)) F dL_thrown_359 (by decide) ?_
                                                      refine z_icmp_ne (tgt := 380) F dL_thrown_362 (by decide) (fun c30 => ?_) (fun c30 => ?_)
                                                      · exact absurd (by decide) c30
                                                      · refine z_aload_n F 0 dL_thrown_365 rfl rfl ?_
                                                        refine z_iload_n F 2 dL_thrown_366 rfl rfl ?_
                                                        refine z_sysi (wf := fun u367 => (sysD g a u367.1 x o1 u367.2)) F (z_sysW (X := sysD g a k x o1 j1) (Y := []) (st := []) F ((zEnvL_ok er D g dg ec fs fv qa sw sb sn xs)) E (fun sz => c_L_fail l hl9 D g er dg ec fs fv qa sw sb sn xs a k x o1 j1 (nI (lMc (kL k))) (hm8) (hn) (hc9) sz) (vx_cwSW 2 F.1.2.2.2.2 gL_thrown_L_fail rfl rfl rfl (by decide +kernel) ⟨Nat.le_of_ble_eq_true rfl, Nat.le_of_ble_eq_true rfl⟩) (List.append_nil _).symm [] rfl rfl (by decide) rfl rfl (Nat.le_of_ble_eq_true rfl) dL_thrown_367 ⟨Nat.le_of_ble_eq_true rfl, Nat.le_of_ble_eq_true rfl⟩) (List.append_nil _).symm (fun _ => rfl) (fun _ => List.append_nil _) (fun r367 u367 hw367 => ?_)
                                                        obtain ⟨k367, j367⟩ := u367
                                                        try dsimp only at hw367
                                                        refine z_ws (ws' := (sysD g a k367 x o1 j367)) rfl ?_
                                                        obtain ⟨e1, e2⟩ := z_ansN hw367 (c := 1) (t_df1 hHM) (by decide)
                                                        obtain ⟨e2, e3⟩ := Prod.mk.inj e2
                                                        have e2 := e2.symm
                                                        subst e2
                                                        have e3 := e3.symm
                                                        subst e3
                                                        refine z_top (y := -1001) e1 ?_
                                                        refine z_sipush (v := (-1001)) F dL_thrown_370 (by decide) ?_
                                                        refine z_icmp_ne (tgt := 380) F dL_thrown_373 (by decide) (fun c31 => ?_) (fun c31 => ?_)
                                                        · exact absurd (by decide) c31
                                                        · refine z_iconst (v := 1) F dL_thrown_376 (by decide) ?_
                                                          refine z_goto (tgt := 381) F dL_thrown_377 (by decide) ?_
                                                          refine z_istore (lv' := [(5, .int 1), (0, .ref (a 0)), (1, .long r1), (3, .int (nI (lMc (kL k)))), (4, .int (nI (kC k)))]) F dL_thrown_381 (by decide) rfl ?_
                                                          refine z_iconst (v := 0) F dL_thrown_383 (by decide) ?_
                                                          refine z_istore (lv' := [(6, .int 0), (5, .int 1), (0, .ref (a 0)), (1, .long r1), (3, .int (nI (lMc (kL k)))), (4, .int (nI (kC k)))]) F dL_thrown_384 (by decide) rfl ?_
                                                          have L386 : ∀ (N386_ : Nat) (m1 : Nat) (hN386_ : lMc (kL k) - m1 < N386_) (hm1 : m1 ≤ lMc (kL k)), zW p l e { frames := 10, cells := 3800, slots := 260000, locals := 223 } s m args below meth c 10 D A Q (1600 + 40 * m1) (118700 + 240 * m1) (sysD g a k x o1 j1) [(0, .ref (a 0)), (1, .long r1), (3, .int (nI (lMc (kL k)))), (4, .int (nI (kC k))), (5, .int 1), (6, .int (nI m1))] [] 386 := by
                                                            intro N386_
                                                            induction N386_ with
                                                            | zero =>
                                                              intro m1 hN386_
                                                              exact absurd hN386_ (Nat.not_lt_zero _)
                                                            | succ N386_ ih386 =>
                                                              intro m1 hN386_ hm1
                                                              refine z_iload F 5 dL_thrown_386 rfl ?_
                                                              refine z_iload_n F 2 dL_thrown_388 rfl rfl ?_
                                                              refine z_icmp_ge (tgt := 786) F dL_thrown_389 (by decide) (fun c32 => ?_) (fun c32 => ?_)
                                                              · have L786 : zW p l e { frames := 10, cells := 3800, slots := 260000, locals := 223 } s m args below meth c 10 D A Q 1940 120700 (sysD g a k x o1 j1) [(0, .ref (a 0)), (1, .long r1), (3, .int (nI (lMc (kL k)))), (4, .int (nI (kC k))), (5, .int 1)] [] 786 := by
                                                                  refine z_iload F 4 dL_thrown_786 rfl ?_
                                                                  refine z_if_eq (tgt := 1106) F dL_thrown_788 (by decide) (fun c33 => ?_) (fun c33 => ?_)
                                                                  · exact absurd c33 (by decide)
                                                                  · refine z_aload_n F 0 dL_thrown_791 rfl rfl ?_
                                                                    refine z_iload_n F 2 dL_thrown_792 rfl rfl ?_
                                                                    refine z_sysi (wf := fun _ => (sysD g a k x o1 j1)) F (z_sysW (X := sysD g a k x o1 j1) (Y := []) (st := []) F ((zEnvL_ok er D g dg ec fs fv qa sw sb sn xs)) E (fun sz => c_L_coins l hl9 D g er dg ec fs fv qa sw sb sn xs a k x o1 j1 (nI (lMc (kL k))) (hm8) sz) (vx_cwSW 2 F.1.2.2.2.2 gL_thrown_L_coins rfl rfl rfl (by decide +kernel) ⟨Nat.le_of_ble_eq_true rfl, Nat.le_of_ble_eq_true rfl⟩) (List.append_nil _).symm [] rfl rfl (by decide) rfl rfl (Nat.le_of_ble_eq_true rfl) dL_thrown_793 ⟨Nat.le_of_ble_eq_true rfl, Nat.le_of_ble_eq_true rfl⟩) (List.append_nil _).symm (fun _ => rfl) (fun _ => List.append_nil _) (fun r793 _ hw793 => ?_)
                                                                    refine z_top hw793 ?_
                                                                    refine z_top (y := -1001) (zIfE (c := 1) (t_om hHM) (by decide)) ?_
                                                                    refine z_sipush (v := (-1001)) F dL_thrown_796 (by decide) ?_
                                                                    refine z_icmp_ne (tgt := 1106) F dL_thrown_799 (by decide) (fun c34 => ?_) (fun c34 => ?_)
                                                                    · exact absurd (by decide) c34
                                                                    · refine z_aload_n F 0 dL_thrown_802 rfl rfl ?_
                                                                      refine z_iconst (v := (-1)) F dL_thrown_803 (by decide) ?_
                                                                      refine z_sysi (wf := fun _ => (sysD g a k x o1 j1)) F (z_sysW (X := sysD g a k x o1 j1) (Y := []) (st := []) F ((zEnvL_ok er D g dg ec fs fv qa sw sb sn xs)) E (fun sz => c_L_collateral l hl9 D g er dg ec fs fv qa sw sb sn xs a k x o1 j1 (-1) (hm8) sz) (vx_cwSW 2 F.1.2.2.2.2 gL_thrown_L_collateral rfl rfl rfl (by decide +kernel) ⟨Nat.le_of_ble_eq_true rfl, Nat.le_of_ble_eq_true rfl⟩) (List.append_nil _).symm [] rfl rfl (by decide) rfl rfl (Nat.le_of_ble_eq_true rfl) dL_thrown_804 ⟨Nat.le_of_ble_eq_true rfl, Nat.le_of_ble_eq_true rfl⟩) (List.append_nil _).symm (fun _ => rfl) (fun _ => List.append_nil _) (fun r804 _ hw804 => ?_)
                                                                      refine z_top hw804 ?_
                                                                      refine z_top (y := -1001) (zIfE (c := 1) (t_om hHN) (by decide)) ?_
                                                                      refine z_sipush (v := (-1001)) F dL_thrown_807 (by decide) ?_
                                                                      refine z_icmp_ne (tgt := 1106) F dL_thrown_810 (by decide) (fun c35 => ?_) (fun c35 => ?_)
                                                                      · exact absurd (by decide) c35
                                                                      · refine z_aload_n F 0 dL_thrown_813 rfl rfl ?_
                                                                        refine z_iload_n F 2 dL_thrown_814 rfl rfl ?_
                                                                        refine z_sysi (wf := fun _ => (sysD g a k x o1 j1)) F (z_sysW (X := sysD g a k x o1 j1) (Y := []) (st := []) F ((zEnvL_ok er D g dg ec fs fv qa sw sb sn xs)) E (fun sz => c_L_cover l hl9 D g er dg ec fs fv qa sw sb sn xs a k x o1 j1 (nI (lMc (kL k))) (hm8) sz) (vx_cwSW 2 F.1.2.2.2.2 gL_thrown_L_cover rfl rfl rfl (by decide +kernel) ⟨Nat.le_of_ble_eq_true rfl, Nat.le_of_ble_eq_true rfl⟩) (List.append_nil _).symm [] rfl rfl (by decide) rfl rfl (Nat.le_of_ble_eq_true rfl) dL_thrown_815 ⟨Nat.le_of_ble_eq_true rfl, Nat.le_of_ble_eq_true rfl⟩) (List.append_nil _).symm (fun _ => rfl) (fun _ => List.append_nil _) (fun r815 _ hw815 => ?_)
                                                                        refine z_top hw815 ?_
                                                                        refine z_top (y := -1001) (zIfE (c := 1) (t_om hHM) (by decide)) ?_
                                                                        refine z_sipush (v := (-1001)) F dL_thrown_818 (by decide) ?_
                                                                        refine z_icmp_ne (tgt := 1106) F dL_thrown_821 (by decide) (fun c36 => ?_) (fun c36 => ?_)
                                                                        · exact absurd (by decide) c36
                                                                        · refine z_aload_n F 0 dL_thrown_824 rfl rfl ?_
                                                                          refine z_iload_n F 2 dL_thrown_825 rfl rfl ?_
                                                                          refine z_sysi (wf := fun _ => (sysD g a k x o1 j1)) F (z_sysW (X := sysD g a k x o1 j1) (Y := []) (st := []) F ((zEnvL_ok er D g dg ec fs fv qa sw sb sn xs)) E (fun sz => c_L_limit l hl9 D g er dg ec fs fv qa sw sb sn xs a k x o1 j1 (nI (lMc (kL k))) (hm8) sz) (vx_cwSW 2 F.1.2.2.2.2 gL_thrown_L_limit rfl rfl rfl (by decide +kernel) ⟨Nat.le_of_ble_eq_true rfl, Nat.le_of_ble_eq_true rfl⟩) (List.append_nil _).symm [] rfl rfl (by decide) rfl rfl (Nat.le_of_ble_eq_true rfl) dL_thrown_826 ⟨Nat.le_of_ble_eq_true rfl, Nat.le_of_ble_eq_true rfl⟩) (List.append_nil _).symm (fun _ => rfl) (fun _ => List.append_nil _) (fun r826 _ hw826 => ?_)
                                                                          refine z_top hw826 ?_
                                                                          refine z_top (y := -1001) (zIfE (c := 1) (t_om hHM) (by decide)) ?_
                                                                          refine z_sipush (v := (-1001)) F dL_thrown_829 (by decide) ?_
                                                                          refine z_icmp_ne (tgt := 1106) F dL_thrown_832 (by decide) (fun c37 => ?_) (fun c37 => ?_)
                                                                          · exact absurd (by decide) c37
                                                                          · refine z_aload_n F 0 dL_thrown_835 rfl rfl ?_
                                                                            refine z_iload_n F 2 dL_thrown_836 rfl rfl ?_
                                                                            refine z_sysi (wf := fun _ => (sysD g a k x o1 j1)) F (z_sysW (X := sysD g a k x o1 j1) (Y := []) (st := []) F ((zEnvL_ok er D g dg ec fs fv qa sw sb sn xs)) E (fun sz => c_L_isFailed l hl9 D g er dg ec fs fv qa sw sb sn xs a k x o1 j1 (nI (lMc (kL k))) (hm8) sz) (vx_cwSW 2 F.1.2.2.2.2 gL_thrown_L_isFailed rfl rfl rfl (by decide +kernel) ⟨Nat.le_of_ble_eq_true rfl, Nat.le_of_ble_eq_true rfl⟩) (List.append_nil _).symm [] rfl rfl (by decide) rfl rfl (Nat.le_of_ble_eq_true rfl) dL_thrown_837 ⟨Nat.le_of_ble_eq_true rfl, Nat.le_of_ble_eq_true rfl⟩) (List.append_nil _).symm (fun _ => rfl) (fun _ => List.append_nil _) (fun r837 _ hw837 => ?_)
                                                                            refine z_top hw837 ?_
                                                                            refine z_top (y := -1001) (zIfE (c := 1) (t_om hHM) (by decide)) ?_
                                                                            refine z_sipush (v := (-1001)) F dL_thrown_840 (by decide) ?_
                                                                            refine z_icmp_ne (tgt := 1106) F dL_thrown_843 (by decide) (fun c38 => ?_) (fun c38 => ?_)
                                                                            · exact absurd (by decide) c38
                                                                            · refine z_aload_n F 0 dL_thrown_846 rfl rfl ?_
                                                                              refine z_iload_n F 2 dL_thrown_847 rfl rfl ?_
                                                                              refine z_iload_n F 2 dL_thrown_848 rfl rfl ?_
                                                                              refine z_sysi (wf := fun _ => (sysD g a k x o1 j1)) F (z_sysW (X := sysD g a k x o1 j1) (Y := []) (st := []) F ((zEnvL_ok er D g dg ec fs fv qa sw sb sn xs)) E (fun sz => c_L_owed l hl9 D g er dg ec fs fv qa sw sb sn xs a k x o1 j1 (nI (lMc (kL k))) (nI (lMc (kL k))) (hm8) sz) (vx_cwSW 3 F.1.2.2.2.2 gL_thrown_L_owed rfl rfl rfl (by decide +kernel) ⟨Nat.le_of_ble_eq_true rfl, Nat.le_of_ble_eq_true rfl⟩) (List.append_nil _).symm [] rfl rfl (by decide) rfl rfl (Nat.le_of_ble_eq_true rfl) dL_thrown_849 ⟨Nat.le_of_ble_eq_true rfl, Nat.le_of_ble_eq_true rfl⟩) (List.append_nil _).symm (fun _ => rfl) (fun _ => List.append_nil _) (fun r849 _ hw849 => ?_)
                                                                              refine z_top hw849 ?_
                                                                              refine z_top (y := -1001) (zIfE (c := 1) (t_pr1 hHM) (by decide)) ?_
                                                                              refine z_sipush (v := (-1001)) F dL_thrown_852 (by decide) ?_
                                                                              refine z_icmp_ne (tgt := 1106) F dL_thrown_855 (by decide) (fun c39 => ?_) (fun c39 => ?_)
                                                                              · exact absurd (by decide) c39
                                                                              · refine z_aload_n F 0 dL_thrown_858 rfl rfl ?_
                                                                                refine z_iconst (v := 0) F dL_thrown_859 (by decide) ?_
                                                                                refine z_iload_n F 2 dL_thrown_860 rfl rfl ?_
                                                                                refine z_sysi (wf := fun _ => (sysD g a k x o1 j1)) F (z_sysW (X := sysD g a k x o1 j1) (Y := []) (st := []) F ((zEnvL_ok er D g dg ec fs fv qa sw sb sn xs)) E (fun sz => c_L_owed l hl9 D g er dg ec fs fv qa sw sb sn xs a k x o1 j1 0 (nI (lMc (kL k))) (hm8) sz) (vx_cwSW 3 F.1.2.2.2.2 gL_thrown_L_owed rfl rfl rfl (by decide +kernel) ⟨Nat.le_of_ble_eq_true rfl, Nat.le_of_ble_eq_true rfl⟩) (List.append_nil _).symm [] rfl rfl (by decide) rfl rfl (Nat.le_of_ble_eq_true rfl) dL_thrown_861 ⟨Nat.le_of_ble_eq_true rfl, Nat.le_of_ble_eq_true rfl⟩) (List.append_nil _).symm (fun _ => rfl) (fun _ => List.append_nil _) (fun r861 _ hw861 => ?_)
                                                                                refine z_top hw861 ?_
                                                                                refine z_top (y := -1001) (zIfE (c := 1) (t_pr2 hH0 hHM) (by decide)) ?_
                                                                                refine z_sipush (v := (-1001)) F dL_thrown_864 (by decide) ?_
                                                                                refine z_icmp_ne (tgt := 1106) F dL_thrown_867 (by decide) (fun c40 => ?_) (fun c40 => ?_)
                                                                                · exact absurd (by decide) c40
                                                                                · refine z_aload_n F 0 dL_thrown_870 rfl rfl ?_
                                                                                  refine z_iconst (v := 0) F dL_thrown_871 (by decide) ?_
                                                                                  refine z_iconst (v := 0) F dL_thrown_872 (by decide) ?_
                                                                                  refine z_sysi (wf := fun _ => (sysD g a k x o1 j1)) F (z_sysW (X := sysD g a k x o1 j1) (Y := []) (st := []) F ((zEnvL_ok er D g dg ec fs fv qa sw sb sn xs)) E (fun sz => c_L_owed l hl9 D g er dg ec fs fv qa sw sb sn xs a k x o1 j1 0 0 (hm8) sz) (vx_cwSW 3 F.1.2.2.2.2 gL_thrown_L_owed rfl rfl rfl (by decide +kernel) ⟨Nat.le_of_ble_eq_true rfl, Nat.le_of_ble_eq_true rfl⟩) (List.append_nil _).symm [] rfl rfl (by decide) rfl rfl (Nat.le_of_ble_eq_true rfl) dL_thrown_873 ⟨Nat.le_of_ble_eq_true rfl, Nat.le_of_ble_eq_true rfl⟩) (List.append_nil _).symm (fun _ => rfl) (fun _ => List.append_nil _) (fun r873 _ hw873 => ?_)
                                                                                  refine z_top hw873 ?_
                                                                                  refine z_top (y := -1002) (zIfE (c := 2) (t_pr3 hH0 hH0 rfl) (by decide)) ?_
                                                                                  refine z_sipush (v := (-1002)) F dL_thrown_876 (by decide) ?_
                                                                                  refine z_icmp_ne (tgt := 1106) F dL_thrown_879 (by decide) (fun c41 => ?_) (fun c41 => ?_)
                                                                                  · exact absurd (by decide) c41
                                                                                  · refine z_aload_n F 0 dL_thrown_882 rfl rfl ?_
                                                                                    refine z_iload_n F 2 dL_thrown_883 rfl rfl ?_
                                                                                    refine z_sysi (wf := fun _ => (sysD g a k x o1 j1)) F (z_sysW (X := sysD g a k x o1 j1) (Y := []) (st := []) F ((zEnvL_ok er D g dg ec fs fv qa sw sb sn xs)) E (fun sz => c_L_debit l hl9 D g er dg ec fs fv qa sw sb sn xs a k x o1 j1 (nI (lMc (kL k))) (hm8) sz) (vx_cwSW 2 F.1.2.2.2.2 gL_thrown_L_debit rfl rfl rfl (by decide +kernel) ⟨Nat.le_of_ble_eq_true rfl, Nat.le_of_ble_eq_true rfl⟩) (List.append_nil _).symm [] rfl rfl (by decide) rfl rfl (Nat.le_of_ble_eq_true rfl) dL_thrown_884 ⟨Nat.le_of_ble_eq_true rfl, Nat.le_of_ble_eq_true rfl⟩) (List.append_nil _).symm (fun _ => rfl) (fun _ => List.append_nil _) (fun r884 _ hw884 => ?_)
                                                                                    refine z_top hw884 ?_
                                                                                    refine z_top (y := -1001) (zIfE (c := 1) (t_om hHM) (by decide)) ?_
                                                                                    refine z_sipush (v := (-1001)) F dL_thrown_887 (by decide) ?_
                                                                                    refine z_icmp_ne (tgt := 1106) F dL_thrown_890 (by decide) (fun c42 => ?_) (fun c42 => ?_)
                                                                                    · exact absurd (by decide) c42
                                                                                    · refine z_aload_n F 0 dL_thrown_893 rfl rfl ?_
                                                                                      refine z_iconst (v := (-1)) F dL_thrown_894 (by decide) ?_
                                                                                      refine z_sysi (wf := fun _ => (sysD g a k x o1 j1)) F (z_sysW (X := sysD g a k x o1 j1) (Y := []) (st := []) F ((zEnvL_ok er D g dg ec fs fv qa sw sb sn xs)) E (fun sz => c_L_credit l hl9 D g er dg ec fs fv qa sw sb sn xs a k x o1 j1 (-1) (hm8) sz) (vx_cwSW 2 F.1.2.2.2.2 gL_thrown_L_credit rfl rfl rfl (by decide +kernel) ⟨Nat.le_of_ble_eq_true rfl, Nat.le_of_ble_eq_true rfl⟩) (List.append_nil _).symm [] rfl rfl (by decide) rfl rfl (Nat.le_of_ble_eq_true rfl) dL_thrown_895 ⟨Nat.le_of_ble_eq_true rfl, Nat.le_of_ble_eq_true rfl⟩) (List.append_nil _).symm (fun _ => rfl) (fun _ => List.append_nil _) (fun r895 _ hw895 => ?_)
                                                                                      refine z_top hw895 ?_
                                                                                      refine z_top (y := -1001) (zIfE (c := 1) (t_om hHN) (by decide)) ?_
                                                                                      refine z_sipush (v := (-1001)) F dL_thrown_898 (by decide) ?_
                                                                                      refine z_icmp_ne (tgt := 1106) F dL_thrown_901 (by decide) (fun c43 => ?_) (fun c43 => ?_)
                                                                                      · exact absurd (by decide) c43
                                                                                      · refine z_aload_n F 0 dL_thrown_904 rfl rfl ?_
                                                                                        refine z_iload_n F 2 dL_thrown_905 rfl rfl ?_
                                                                                        refine z_sysi (wf := fun _ => (sysD g a k x o1 j1)) F (z_sysW (X := sysD g a k x o1 j1) (Y := []) (st := []) F ((zEnvL_ok er D g dg ec fs fv qa sw sb sn xs)) E (fun sz => c_L_position l hl9 D g er dg ec fs fv qa sw sb sn xs a k x o1 j1 (nI (lMc (kL k))) (hm8) sz) (vx_cwSW 2 F.1.2.2.2.2 gL_thrown_L_position rfl rfl rfl (by decide +kernel) ⟨Nat.le_of_ble_eq_true rfl, Nat.le_of_ble_eq_true rfl⟩) (List.append_nil _).symm [] rfl rfl (by decide) rfl rfl (Nat.le_of_ble_eq_true rfl) dL_thrown_906 ⟨Nat.le_of_ble_eq_true rfl, Nat.le_of_ble_eq_true rfl⟩) (List.append_nil _).symm (fun _ => rfl) (fun _ => List.append_nil _) (fun r906 _ hw906 => ?_)
                                                                                        refine z_top hw906 ?_
                                                                                        refine z_top (y := -1001) (zIfE (c := 1) (t_om hHM) (by decide)) ?_
                                                                                        refine z_sipush (v := (-1001)) F dL_thrown_909 (by decide) ?_
                                                                                        refine z_icmp_ne (tgt := 1106) F dL_thrown_912 (by decide) (fun c44 => ?_) (fun c44 => ?_)
                                                                                        · exact absurd (by decide) c44
                                                                                        · refine z_aload_n F 0 dL_thrown_915 rfl rfl ?_
                                                                                          refine z_iload_n F 2 dL_thrown_916 rfl rfl ?_
                                                                                          refine z_sysi (wf := fun _ => (sysD g a k x o1 j1)) F (z_sysW (X := sysD g a k x o1 j1) (Y := []) (st := []) F ((zEnvL_ok er D g dg ec fs fv qa sw sb sn xs)) E (fun sz => c_L_byAccount l hl9 D g er dg ec fs fv qa sw sb sn xs a k x o1 j1 (nI (lMc (kL k))) (hm8) sz) (vx_cwSW 2 F.1.2.2.2.2 gL_thrown_L_byAccount rfl rfl rfl (by decide +kernel) ⟨Nat.le_of_ble_eq_true rfl, Nat.le_of_ble_eq_true rfl⟩) (List.append_nil _).symm [] rfl rfl (by decide) rfl rfl (Nat.le_of_ble_eq_true rfl) dL_thrown_917 ⟨Nat.le_of_ble_eq_true rfl, Nat.le_of_ble_eq_true rfl⟩) (List.append_nil _).symm (fun _ => rfl) (fun _ => List.append_nil _) (fun r917 _ hw917 => ?_)
                                                                                          refine z_top hw917 ?_
                                                                                          refine z_top (y := -1001) (zIfE (c := 1) (t_om hHM) (by decide)) ?_
                                                                                          refine z_sipush (v := (-1001)) F dL_thrown_920 (by decide) ?_
                                                                                          refine z_icmp_ne (tgt := 1106) F dL_thrown_923 (by decide) (fun c45 => ?_) (fun c45 => ?_)
                                                                                          · exact absurd (by decide) c45
                                                                                          · refine z_aload_n F 0 dL_thrown_926 rfl rfl ?_
                                                                                            refine z_iload_n F 2 dL_thrown_927 rfl rfl ?_
                                                                                            refine z_sysi (wf := fun j928 => (sysD g a k x o1 j928)) F (z_sysW (X := sysD g a k x o1 j1) (Y := []) (st := []) F ((zEnvL_ok er D g dg ec fs fv qa sw sb sn xs)) E (fun sz => c_L_reachCount l hl9 D g er dg ec fs fv qa sw sb sn xs a k x o1 j1 (nI (lMc (kL k))) (hm8) sz) (vx_cwSW 2 F.1.2.2.2.2 gL_thrown_L_reachCount rfl rfl rfl (by decide +kernel) ⟨Nat.le_of_ble_eq_true rfl, Nat.le_of_ble_eq_true rfl⟩) (List.append_nil _).symm [] rfl rfl (by decide) rfl rfl (Nat.le_of_ble_eq_true rfl) dL_thrown_928 ⟨Nat.le_of_ble_eq_true rfl, Nat.le_of_ble_eq_true rfl⟩) (List.append_nil _).symm (fun _ => rfl) (fun _ => List.append_nil _) (fun r928 j928 hw928 => ?_)
                                                                                            obtain ⟨e1, e2⟩ := z_ansN hw928 (c := 1) (t_om hHM) (by decide)
                                                                                            have e2 := e2.symm
                                                                                            subst e2
                                                                                            refine z_top (y := -1001) e1 ?_
                                                                                            refine z_sipush (v := (-1001)) F dL_thrown_931 (by decide) ?_
                                                                                            refine z_icmp_ne (tgt := 1106) F dL_thrown_934 (by decide) (fun c46 => ?_) (fun c46 => ?_)
                                                                                            · exact absurd (by decide) c46
                                                                                            · refine z_aload_n F 0 dL_thrown_937 rfl rfl ?_
                                                                                              refine z_iconst (v := (-1)) F dL_thrown_938 (by decide) ?_
                                                                                              refine z_sysi (wf := fun _ => (sysD g a k x o1 j1)) F (z_sysW (X := sysD g a k x o1 j1) (Y := []) (st := []) F ((zEnvL_ok er D g dg ec fs fv qa sw sb sn xs)) E (fun sz => c_L_reachByRounds l hl9 D g er dg ec fs fv qa sw sb sn xs a k x o1 j1 (-1) (hm8) ((by rw [t_om hHN]; decide)) sz) (vx_cwSW 2 F.1.2.2.2.2 gL_thrown_L_reachByRounds rfl rfl rfl (by decide +kernel) ⟨Nat.le_of_ble_eq_true rfl, Nat.le_of_ble_eq_true rfl⟩) (List.append_nil _).symm [] rfl rfl (by decide) rfl rfl (Nat.le_of_ble_eq_true rfl) dL_thrown_939 ⟨Nat.le_of_ble_eq_true rfl, Nat.le_of_ble_eq_true rfl⟩) (List.append_nil _).symm (fun _ => rfl) (fun _ => List.append_nil _) (fun r939 _ hw939 => ?_)
                                                                                              refine z_top hw939 ?_
                                                                                              refine z_top (y := -1001) (zIfE (c := 1) (t_om hHN) (by decide)) ?_
                                                                                              refine z_sipush (v := (-1001)) F dL_thrown_942 (by decide) ?_
                                                                                              refine z_icmp_ne (tgt := 1106) F dL_thrown_945 (by decide) (fun c47 => ?_) (fun c47 => ?_)
                                                                                              · exact absurd (by decide) c47
                                                                                              · refine z_aload_n F 0 dL_thrown_948 rfl rfl ?_
                                                                                                refine z_iload_n F 2 dL_thrown_949 rfl rfl ?_
                                                                                                refine z_iload_n F 2 dL_thrown_950 rfl rfl ?_
                                                                                                refine z_sysi (wf := fun _ => (sysD g a k x o1 j1)) F (z_sysW (X := sysD g a k x o1 j1) (Y := []) (st := []) F ((zEnvL_ok er D g dg ec fs fv qa sw sb sn xs)) E (fun sz => c_L_reaches l hl9 D g er dg ec fs fv qa sw sb sn xs a k x o1 j1 (nI (lMc (kL k))) (nI (lMc (kL k))) (hm8) ((by rw [t_pr1 hHM]; decide)) sz) (vx_cwSW 3 F.1.2.2.2.2 gL_thrown_L_reaches rfl rfl rfl (by decide +kernel) ⟨Nat.le_of_ble_eq_true rfl, Nat.le_of_ble_eq_true rfl⟩) (List.append_nil _).symm [] rfl rfl (by decide) rfl rfl (Nat.le_of_ble_eq_true rfl) dL_thrown_951 ⟨Nat.le_of_ble_eq_true rfl, Nat.le_of_ble_eq_true rfl⟩) (List.append_nil _).symm (fun _ => rfl) (fun _ => List.append_nil _) (fun r951 _ hw951 => ?_)
                                                                                                refine z_top hw951 ?_
                                                                                                refine z_top (y := -1001) (zIfE (c := 1) (t_pr1 hHM) (by decide)) ?_
                                                                                                refine z_sipush (v := (-1001)) F dL_thrown_954 (by decide) ?_
                                                                                                refine z_icmp_ne (tgt := 1106) F dL_thrown_957 (by decide) (fun c48 => ?_) (fun c48 => ?_)
                                                                                                · exact absurd (by decide) c48
                                                                                                · refine z_aload_n F 0 dL_thrown_960 rfl rfl ?_
                                                                                                  refine z_iconst (v := 1) F dL_thrown_961 (by decide) ?_
                                                                                                  refine z_iconst (v := 1) F dL_thrown_962 (by decide) ?_
                                                                                                  refine z_sysi (wf := fun _ => (sysD g a k x o1 j1)) F (z_sysW (X := sysD g a k x o1 j1) (Y := []) (st := []) F ((zEnvL_ok er D g dg ec fs fv qa sw sb sn xs)) E (fun sz => c_L_reaches l hl9 D g er dg ec fs fv qa sw sb sn xs a k x o1 j1 1 1 (hm8) ((by rw [t_pr3 hH1 hH1 rfl]; decide)) sz) (vx_cwSW 3 F.1.2.2.2.2 gL_thrown_L_reaches rfl rfl rfl (by decide +kernel) ⟨Nat.le_of_ble_eq_true rfl, Nat.le_of_ble_eq_true rfl⟩) (List.append_nil _).symm [] rfl rfl (by decide) rfl rfl (Nat.le_of_ble_eq_true rfl) dL_thrown_963 ⟨Nat.le_of_ble_eq_true rfl, Nat.le_of_ble_eq_true rfl⟩) (List.append_nil _).symm (fun _ => rfl) (fun _ => List.append_nil _) (fun r963 _ hw963 => ?_)
                                                                                                  refine z_top hw963 ?_
                                                                                                  refine z_top (y := -1002) (zIfE (c := 2) (t_pr3 hH1 hH1 rfl) (by decide)) ?_
                                                                                                  refine z_sipush (v := (-1002)) F dL_thrown_966 (by decide) ?_
                                                                                                  refine z_icmp_ne (tgt := 1106) F dL_thrown_969 (by decide) (fun c49 => ?_) (fun c49 => ?_)
                                                                                                  · exact absurd (by decide) c49
                                                                                                  · refine z_aload_n F 0 dL_thrown_972 rfl rfl ?_
                                                                                                    refine z_iload_n F 2 dL_thrown_973 rfl rfl ?_
                                                                                                    refine z_sysi (wf := fun _ => (sysD g a k x o1 j1)) F (z_sysW (X := sysD g a k x o1 j1) (Y := []) (st := []) F ((zEnvL_ok er D g dg ec fs fv qa sw sb sn xs)) E (fun sz => c_L_lossIf l hl9 D g er dg ec fs fv qa sw sb sn xs a k x o1 j1 (nI (lMc (kL k))) (hm8) sz) (vx_cwSW 2 F.1.2.2.2.2 gL_thrown_L_lossIf rfl rfl rfl (by decide +kernel) ⟨Nat.le_of_ble_eq_true rfl, Nat.le_of_ble_eq_true rfl⟩) (List.append_nil _).symm [] rfl rfl (by decide) rfl rfl (Nat.le_of_ble_eq_true rfl) dL_thrown_974 ⟨Nat.le_of_ble_eq_true rfl, Nat.le_of_ble_eq_true rfl⟩) (List.append_nil _).symm (fun _ => rfl) (fun _ => List.append_nil _) (fun r974 _ hw974 => ?_)
                                                                                                    refine z_top hw974 ?_
                                                                                                    refine z_top (y := -1001) (zIfE (c := 1) (t_df1 hHM) (by decide)) ?_
                                                                                                    refine z_sipush (v := (-1001)) F dL_thrown_977 (by decide) ?_
                                                                                                    refine z_icmp_ne (tgt := 1106) F dL_thrown_980 (by decide) (fun c50 => ?_) (fun c50 => ?_)
                                                                                                    · exact absurd (by decide) c50
                                                                                                    · refine z_aload_n F 0 dL_thrown_983 rfl rfl ?_
                                                                                                      refine z_iload_n F 2 dL_thrown_984 rfl rfl ?_
                                                                                                      refine z_iload_n F 2 dL_thrown_985 rfl rfl ?_
                                                                                                      refine z_sysi (wf := fun _ => (sysD g a k x o1 j1)) F (z_sysW (X := sysD g a k x o1 j1) (Y := []) (st := []) F ((zEnvL_ok er D g dg ec fs fv qa sw sb sn xs)) E (fun sz => c_L_shareIf l hl9 D g er dg ec fs fv qa sw sb sn xs a k x o1 j1 (nI (lMc (kL k))) (nI (lMc (kL k))) (hm8) ((by rw [t_pr1 hHM]; decide)) sz) (vx_cwSW 3 F.1.2.2.2.2 gL_thrown_L_shareIf rfl rfl rfl (by decide +kernel) ⟨Nat.le_of_ble_eq_true rfl, Nat.le_of_ble_eq_true rfl⟩) (List.append_nil _).symm [] rfl rfl (by decide) rfl rfl (Nat.le_of_ble_eq_true rfl) dL_thrown_986 ⟨Nat.le_of_ble_eq_true rfl, Nat.le_of_ble_eq_true rfl⟩) (List.append_nil _).symm (fun _ => rfl) (fun _ => List.append_nil _) (fun r986 _ hw986 => ?_)
                                                                                                      refine z_top hw986 ?_
                                                                                                      refine z_top (y := -1001) (zIfE (c := 1) (t_pr1 hHM) (by decide)) ?_
                                                                                                      refine z_sipush (v := (-1001)) F dL_thrown_989 (by decide) ?_
                                                                                                      refine z_icmp_ne (tgt := 1106) F dL_thrown_992 (by decide) (fun c51 => ?_) (fun c51 => ?_)
                                                                                                      · exact absurd (by decide) c51
                                                                                                      · refine z_aload_n F 0 dL_thrown_995 rfl rfl ?_
                                                                                                        refine z_iconst (v := 0) F dL_thrown_996 (by decide) ?_
                                                                                                        refine z_iload_n F 2 dL_thrown_997 rfl rfl ?_
                                                                                                        refine z_sysi (wf := fun _ => (sysD g a k x o1 j1)) F (z_sysW (X := sysD g a k x o1 j1) (Y := []) (st := []) F ((zEnvL_ok er D g dg ec fs fv qa sw sb sn xs)) E (fun sz => c_L_shareIf l hl9 D g er dg ec fs fv qa sw sb sn xs a k x o1 j1 0 (nI (lMc (kL k))) (hm8) ((by rw [t_pr2 hH0 hHM]; decide)) sz) (vx_cwSW 3 F.1.2.2.2.2 gL_thrown_L_shareIf rfl rfl rfl (by decide +kernel) ⟨Nat.le_of_ble_eq_true rfl, Nat.le_of_ble_eq_true rfl⟩) (List.append_nil _).symm [] rfl rfl (by decide) rfl rfl (Nat.le_of_ble_eq_true rfl) dL_thrown_998 ⟨Nat.le_of_ble_eq_true rfl, Nat.le_of_ble_eq_true rfl⟩) (List.append_nil _).symm (fun _ => rfl) (fun _ => List.append_nil _) (fun r998 _ hw998 => ?_)
                                                                                                        refine z_top hw998 ?_
                                                                                                        refine z_top (y := -1001) (zIfE (c := 1) (t_pr2 hH0 hHM) (by decide)) ?_
                                                                                                        refine z_sipush (v := (-1001)) F dL_thrown_1001 (by decide) ?_
                                                                                                        refine z_icmp_ne (tgt := 1106) F dL_thrown_1004 (by decide) (fun c52 => ?_) (fun c52 => ?_)
                                                                                                        · exact absurd (by decide) c52
                                                                                                        · refine z_aload_n F 0 dL_thrown_1007 rfl rfl ?_
                                                                                                          refine z_iconst (v := 0) F dL_thrown_1008 (by decide) ?_
                                                                                                          refine z_iconst (v := 0) F dL_thrown_1009 (by decide) ?_
                                                                                                          refine z_sysi (wf := fun _ => (sysD g a k x o1 j1)) F (z_sysW (X := sysD g a k x o1 j1) (Y := []) (st := []) F ((zEnvL_ok er D g dg ec fs fv qa sw sb sn xs)) E (fun sz => c_L_shareIf l hl9 D g er dg ec fs fv qa sw sb sn xs a k x o1 j1 0 0 (hm8) ((by rw [t_pr3 hH0 hH0 rfl]; decide)) sz) (vx_cwSW 3 F.1.2.2.2.2 gL_thrown_L_shareIf rfl rfl rfl (by decide +kernel) ⟨Nat.le_of_ble_eq_true rfl, Nat.le_of_ble_eq_true rfl⟩) (List.append_nil _).symm [] rfl rfl (by decide) rfl rfl (Nat.le_of_ble_eq_true rfl) dL_thrown_1010 ⟨Nat.le_of_ble_eq_true rfl, Nat.le_of_ble_eq_true rfl⟩) (List.append_nil _).symm (fun _ => rfl) (fun _ => List.append_nil _) (fun r1010 _ hw1010 => ?_)
                                                                                                          refine z_top hw1010 ?_
                                                                                                          refine z_top (y := -1002) (zIfE (c := 2) (t_pr3 hH0 hH0 rfl) (by decide)) ?_
                                                                                                          refine z_sipush (v := (-1002)) F dL_thrown_1013 (by decide) ?_
                                                                                                          refine z_icmp_ne (tgt := 1106) F dL_thrown_1016 (by decide) (fun c53 => ?_) (fun c53 => ?_)
                                                                                                          · exact absurd (by decide) c53
                                                                                                          · refine z_aload_n F 0 dL_thrown_1019 rfl rfl ?_
                                                                                                            refine z_iload_n F 2 dL_thrown_1020 rfl rfl ?_
                                                                                                            refine z_sysi (wf := fun _ => (sysD g a k x o1 j1)) F (z_sysW (X := sysD g a k x o1 j1) (Y := []) (st := []) F ((zEnvL_ok er D g dg ec fs fv qa sw sb sn xs)) E (fun sz => c_L_byPosition l hl9 D g er dg ec fs fv qa sw sb sn xs a k x o1 j1 (nI (lMc (kL k))) (hm8) sz) (vx_cwSW 2 F.1.2.2.2.2 gL_thrown_L_byPosition rfl rfl rfl (by decide +kernel) ⟨Nat.le_of_ble_eq_true rfl, Nat.le_of_ble_eq_true rfl⟩) (List.append_nil _).symm [] rfl rfl (by decide) rfl rfl (Nat.le_of_ble_eq_true rfl) dL_thrown_1021 ⟨Nat.le_of_ble_eq_true rfl, Nat.le_of_ble_eq_true rfl⟩) (List.append_nil _).symm (fun _ => rfl) (fun _ => List.append_nil _) (fun r1021 _ hw1021 => ?_)
                                                                                                            refine z_top hw1021 ?_
                                                                                                            refine z_top (y := -1001) (zIfE (c := 5) (t_rkM hm8) (by decide)) ?_
                                                                                                            refine z_sipush (v := (-1001)) F dL_thrown_1024 (by decide) ?_
                                                                                                            refine z_icmp_ne (tgt := 1106) F dL_thrown_1027 (by decide) (fun c54 => ?_) (fun c54 => ?_)
                                                                                                            · exact absurd (by decide) c54
                                                                                                            · refine z_aload_n F 0 dL_thrown_1030 rfl rfl ?_
                                                                                                              refine z_iconst (v := (-1)) F dL_thrown_1031 (by decide) ?_
                                                                                                              refine z_sysi (wf := fun _ => (sysD g a k x o1 j1)) F (z_sysW (X := sysD g a k x o1 j1) (Y := []) (st := []) F ((zEnvL_ok er D g dg ec fs fv qa sw sb sn xs)) E (fun sz => c_L_byPosition l hl9 D g er dg ec fs fv qa sw sb sn xs a k x o1 j1 (-1) (hm8) sz) (vx_cwSW 2 F.1.2.2.2.2 gL_thrown_L_byPosition rfl rfl rfl (by decide +kernel) ⟨Nat.le_of_ble_eq_true rfl, Nat.le_of_ble_eq_true rfl⟩) (List.append_nil _).symm [] rfl rfl (by decide) rfl rfl (Nat.le_of_ble_eq_true rfl) dL_thrown_1032 ⟨Nat.le_of_ble_eq_true rfl, Nat.le_of_ble_eq_true rfl⟩) (List.append_nil _).symm (fun _ => rfl) (fun _ => List.append_nil _) (fun r1032 _ hw1032 => ?_)
                                                                                                              refine z_top hw1032 ?_
                                                                                                              refine z_top (y := -1001) (zIfE (c := 5) (t_rkN hm8) (by decide)) ?_
                                                                                                              refine z_sipush (v := (-1001)) F dL_thrown_1035 (by decide) ?_
                                                                                                              refine z_icmp_ne (tgt := 1106) F dL_thrown_1038 (by decide) (fun c55 => ?_) (fun c55 => ?_)
                                                                                                              · exact absurd (by decide) c55
                                                                                                              · refine z_aload_n F 0 dL_thrown_1041 rfl rfl ?_
                                                                                                                refine z_calli0 F (z_runV (st := []) F (zEnv_ok er) E.1.1.1.1 (fun sz => c_X10_debtCount l D g er a (lAm (kL k)) (lMc (kL k)) (lHc (kL k)) (lNe (kL k)) (lLo (kL k)) (kV k) (kE k) (kF k) (by omega) sz) (cwV 0 F.1.2.2.2.2 gL_thrown_X10_debtCount rfl rfl rfl (by decide +kernel) ⟨Nat.le_of_ble_eq_true rfl, Nat.le_of_ble_eq_true rfl⟩) 0 rfl rfl rfl [] [0, 1, 2] rfl rfl (by decide) rfl rfl (Nat.le_of_ble_eq_true rfl) dL_thrown_1042 ⟨Nat.le_of_ble_eq_true rfl, Nat.le_of_ble_eq_true rfl⟩) (fun r57 _ hw56 => ?_)
                                                                                                                subst hw56
                                                                                                                have L1068 : zW p l e { frames := 10, cells := 3800, slots := 260000, locals := 223 } s m args below meth c 10 D A Q 1975 120950 (sysD g a k x o1 j1) [(0, .ref (a 0)), (1, .long r1), (3, .int (nI (lMc (kL k)))), (4, .int (nI (kC k)))] [] 1068 := by
                                                                                                                  refine z_aload_n F 0 dL_thrown_1068 rfl rfl ?_
                                                                                                                  refine z_iload_n F 2 dL_thrown_1069 rfl rfl ?_
                                                                                                                  refine z_sysi (wf := fun o1070 => (sysD g a k x o1070 j1)) F (z_sysW (X := sysD g a k x o1 j1) (Y := []) (st := []) F ((zEnvL_ok er D g dg ec fs fv qa sw sb sn xs)) E (fun sz => c_L_writeDebts l hl9 D g er dg ec fs fv qa sw sb sn xs a k x o1 j1 (nI (lMc (kL k))) (hm8) (hw1.2.2.1) (hw1.2.2.2.1) sz) (vx_cwSW 2 F.1.2.2.2.2 gL_thrown_L_writeDebts rfl rfl rfl (by decide +kernel) ⟨Nat.le_of_ble_eq_true rfl, Nat.le_of_ble_eq_true rfl⟩) (List.append_nil _).symm [] rfl rfl (by decide) rfl rfl (Nat.le_of_ble_eq_true rfl) dL_thrown_1070 ⟨Nat.le_of_ble_eq_true rfl, Nat.le_of_ble_eq_true rfl⟩) (List.append_nil _).symm (fun _ => rfl) (fun _ => List.append_nil _) (fun r1070 o1070 hw1070 => ?_)
                                                                                                                  obtain ⟨e1, e2⟩ := z_ansN hw1070 (c := 1) (t_om hHM) (by decide)
                                                                                                                  have e2 := e2.symm
                                                                                                                  subst e2
                                                                                                                  refine z_top (y := -1001) e1 ?_
                                                                                                                  refine z_sipush (v := (-1001)) F dL_thrown_1073 (by decide) ?_
                                                                                                                  refine z_icmp_ne (tgt := 1106) F dL_thrown_1076 (by decide) (fun c58 => ?_) (fun c58 => ?_)
                                                                                                                  · exact absurd (by decide) c58
                                                                                                                  · refine z_aload_n F 0 dL_thrown_1079 rfl rfl ?_
                                                                                                                    refine z_iconst (v := (-1)) F dL_thrown_1080 (by decide) ?_
                                                                                                                    refine z_sysi (wf := fun _ => (sysD g a k x o1 j1)) F (z_sysW (X := sysD g a k x o1 j1) (Y := []) (st := []) F ((zEnvL_ok er D g dg ec fs fv qa sw sb sn xs)) E (fun sz => c_L_outputChar l hl9 D g er dg ec fs fv qa sw sb sn xs a k x o1 j1 (-1) (hw1.2.2.1) (hw1.2.2.2.1) sz) (vx_cwSW 2 F.1.2.2.2.2 gL_thrown_L_outputChar rfl rfl rfl (by decide +kernel) ⟨Nat.le_of_ble_eq_true rfl, Nat.le_of_ble_eq_true rfl⟩) (List.append_nil _).symm [] rfl rfl (by decide) rfl rfl (Nat.le_of_ble_eq_true rfl) dL_thrown_1081 ⟨Nat.le_of_ble_eq_true rfl, Nat.le_of_ble_eq_true rfl⟩) (List.append_nil _).symm (fun _ => rfl) (fun _ => List.append_nil _) (fun r1081 _ hw1081 => ?_)
                                                                                                                    refine z_top hw1081 ?_
                                                                                                                    refine z_top (y := -1001) (zIfE (c := 1) (t_ocN _) (by decide)) ?_
                                                                                                                    refine z_sipush (v := (-1001)) F dL_thrown_1084 (by decide) ?_
                                                                                                                    refine z_icmp_ne (tgt := 1106) F dL_thrown_1087 (by decide) (fun c59 => ?_) (fun c59 => ?_)
                                                                                                                    · exact absurd (by decide) c59
                                                                                                                    · refine z_aload_n F 0 dL_thrown_1090 rfl rfl ?_
                                                                                                                      refine z_bipush (v := 120) F dL_thrown_1091 (by decide) ?_
                                                                                                                      refine z_sysi (wf := fun _ => (sysD g a k x o1 j1)) F (z_sysW (X := sysD g a k x o1 j1) (Y := []) (st := []) F ((zEnvL_ok er D g dg ec fs fv qa sw sb sn xs)) E (fun sz => c_L_outputChar l hl9 D g er dg ec fs fv qa sw sb sn xs a k x o1 j1 120 (hw1.2.2.1) (hw1.2.2.2.1) sz) (vx_cwSW 2 F.1.2.2.2.2 gL_thrown_L_outputChar rfl rfl rfl (by decide +kernel) ⟨Nat.le_of_ble_eq_true rfl, Nat.le_of_ble_eq_true rfl⟩) (List.append_nil _).symm [] rfl rfl (by decide) rfl rfl (Nat.le_of_ble_eq_true rfl) dL_thrown_1093 ⟨Nat.le_of_ble_eq_true rfl, Nat.le_of_ble_eq_true rfl⟩) (List.append_nil _).symm (fun _ => rfl) (fun _ => List.append_nil _) (fun r1093 _ hw1093 => ?_)
                                                                                                                      refine z_top hw1093 ?_
                                                                                                                      refine z_top (y := -1001) (zIfE (c := 1) (t_oc hM h3 hw1.2.1) (by decide)) ?_
                                                                                                                      refine z_sipush (v := (-1001)) F dL_thrown_1096 (by decide) ?_
                                                                                                                      refine z_icmp_ne (tgt := 1106) F dL_thrown_1099 (by decide) (fun c60 => ?_) (fun c60 => ?_)
                                                                                                                      · exact absurd (by decide) c60
                                                                                                                      · refine z_iconst (v := 1) F dL_thrown_1102 (by decide) ?_
                                                                                                                        refine z_goto (tgt := 1107) F dL_thrown_1103 (by decide) ?_
                                                                                                                        refine z_istore (lv' := [(5, .int 1), (0, .ref (a 0)), (1, .long r1), (3, .int (nI (lMc (kL k)))), (4, .int (nI (kC k)))]) F dL_thrown_1107 (by decide) rfl ?_
                                                                                                                        refine z_iload F 0 dL_thrown_1109 rfl ?_
                                                                                                                        refine z_if_eq (tgt := 1204) F dL_thrown_1111 (by decide) (fun c61 => ?_) (fun c61 => ?_)
                                                                                                                        · exact absurd c61 (by decide)
                                                                                                                        · refine z_aload_n F 1 dL_thrown_1114 rfl rfl ?_
                                                                                                                          refine z_ldcsw F (a9 := fs 11) (E.2.1.2 3 _ rfl) dL_thrown_1115 ?_
                                                                                                                          refine z_ws (ws' := (sysD g a ((inK k 0)) x o1 j1)) (by rw [inK_self hi0]) ?_
                                                                                                                          refine z_sysi (wf := fun u1118 => (sysD g a u1118.1 u1118.2.1 o1 u1118.2.2)) F (z_sysS (X := sysD g a ((inK k 0)) x o1 j1) (Y := []) (st := []) F ((zEnvL_ok er D g dg ec fs fv qa sw sb sn xs)) E (fun sz => k_L_runs l hl9 D g er dg ec fs fv qa sw sb sn xs a k x o1 j1 11 (hm8) (hnc1) (hn) (hc9) ((by decide)) sz) (va_cwS 2 F.1.2.2.2.2 gL_thrown_L_runs rfl rfl rfl (by decide +kernel) ⟨Nat.le_of_ble_eq_true rfl, Nat.le_of_ble_eq_true rfl⟩) (List.append_nil _).symm [] rfl rfl (by decide) rfl rfl (Nat.le_of_ble_eq_true rfl) dL_thrown_1118 ⟨Nat.le_of_ble_eq_true rfl, Nat.le_of_ble_eq_true rfl⟩) (List.append_nil _).symm (fun _ => rfl) (fun _ => List.append_nil _) (fun r1118 u1118 hw1118 => ?_)
                                                                                                                          obtain ⟨k1118, x1118, j1118⟩ := u1118
                                                                                                                          try dsimp only at hw1118
                                                                                                                          refine z_ws (ws' := (sysD g a k1118 x1118 o1 j1118)) rfl ?_
                                                                                                                          obtain ⟨e1, e2, hj1118⟩ := t_r11 (k := k) hw1118.1 hw1118.2
                                                                                                                          subst e2
                                                                                                                          refine z_top (y := -1001) e1 ?_
                                                                                                                          refine z_sipush (v := (-1001)) F dL_thrown_1121 (by decide) ?_
                                                                                                                          refine z_icmp_ne (tgt := 1204) F dL_thrown_1124 (by decide) (fun c62 => ?_) (fun c62 => ?_)
                                                                                                                          · exact absurd (by decide) c62
                                                                                                                          · refine z_aload_n F 1 dL_thrown_1127 rfl rfl ?_
                                                                                                                            refine z_sysi (wf := fun _ => (sysD g a ((errK k 0 (kF k))) x1118 o1 j1118)) F (z_sysW (X := sysD g a ((errK k 0 (kF k))) x1118 o1 j1118) (Y := []) (st := []) F ((zEnvL_ok er D g dg ec fs fv qa sw sb sn xs)) E (fun sz => c_L_errorPosition l D g er dg ec fs fv qa sw sb sn xs a ((errK k 0 (kF k))) x1118 o1 j1118 ((show ¬ (0 : Int32) = -1 by decide)) sz) (vx_cwSW 1 F.1.2.2.2.2 gL_thrown_L_errorPosition rfl rfl rfl (by decide +kernel) ⟨Nat.le_of_ble_eq_true rfl, Nat.le_of_ble_eq_true rfl⟩) (List.append_nil _).symm [] rfl rfl (by decide) rfl rfl (Nat.le_of_ble_eq_true rfl) dL_thrown_1128 ⟨Nat.le_of_ble_eq_true rfl, Nat.le_of_ble_eq_true rfl⟩) (List.append_nil _).symm (fun _ => rfl) (fun _ => List.append_nil _) (fun r1128 _ hw1128 => ?_)
                                                                                                                            refine z_top hw1128 ?_
                                                                                                                            refine z_top (y := 0) (rfl) ?_
                                                                                                                            refine z_if_ne (tgt := 1204) F dL_thrown_1131 (by decide) (fun c63 => ?_) (fun c63 => ?_)
                                                                                                                            · exact absurd (by decide) c63
                                                                                                                            · refine z_aload_n F 1 dL_thrown_1134 rfl rfl ?_
                                                                                                                              refine z_ldcsw F (a9 := fs 12) (E.2.1.2 4 _ rfl) dL_thrown_1135 ?_
                                                                                                                              refine z_ws (ws' := (sysD g a ((inK (errK k 0 (kF k)) 0)) x1118 o1 j1118)) (rfl) ?_
                                                                                                                              refine z_sysi (wf := fun u1138 => (sysD g a u1138.1 u1138.2.1 o1 u1138.2.2)) F (z_sysS (X := sysD g a ((inK (errK k 0 (kF k)) 0)) x1118 o1 j1118) (Y := []) (st := []) F ((zEnvL_ok er D g dg ec fs fv qa sw sb sn xs)) E (fun sz => k_L_runs l hl9 D g er dg ec fs fv qa sw sb sn xs a ((errK k 0 (kF k))) x1118 o1 j1118 12 (hm8) (hj1118) (hn) (hc9) ((by decide)) sz) (va_cwS 2 F.1.2.2.2.2 gL_thrown_L_runs rfl rfl rfl (by decide +kernel) ⟨Nat.le_of_ble_eq_true rfl, Nat.le_of_ble_eq_true rfl⟩) (List.append_nil _).symm [] rfl rfl (by decide) rfl rfl (Nat.le_of_ble_eq_true rfl) dL_thrown_1138 ⟨Nat.le_of_ble_eq_true rfl, Nat.le_of_ble_eq_true rfl⟩) (List.append_nil _).symm (fun _ => rfl) (fun _ => List.append_nil _) (fun r1138 u1138 hw1138 => ?_)
                                                                                                                              obtain ⟨k1138, x1138, j1138⟩ := u1138
                                                                                                                              try dsimp only at hw1138
                                                                                                                              refine z_ws (ws' := (sysD g a k1138 x1138 o1 j1138)) rfl ?_
                                                                                                                              obtain ⟨e1, e2, hj1138⟩ := t_r12 (k := (errK k 0 (kF k))) h3 hm8 hw1138.1 hw1138.2
                                                                                                                              subst e2
                                                                                                                              refine z_ws (ws' := (sysD g a ((errK k 0 2)) x1138 o1 j1138)) rfl ?_
                                                                                                                              refine z_top (y := -1002) e1 ?_
                                                                                                                              refine z_sipush (v := (-1002)) F dL_thrown_1141 (by decide) ?_
                                                                                                                              refine z_icmp_ne (tgt := 1204) F dL_thrown_1144 (by decide) (fun c64 => ?_) (fun c64 => ?_)
                                                                                                                              · exact absurd (by decide) c64
                                                                                                                              · refine z_aload_n F 1 dL_thrown_1147 rfl rfl ?_
                                                                                                                                refine z_sysi (wf := fun _ => (sysD g a ((errK k 0 2)) x1138 o1 j1138)) F (z_sysW (X := sysD g a ((errK k 0 2)) x1138 o1 j1138) (Y := []) (st := []) F ((zEnvL_ok er D g dg ec fs fv qa sw sb sn xs)) E (fun sz => c_L_failedCommand l D g er dg ec fs fv qa sw sb sn xs a ((errK k 0 2)) x1138 o1 j1138 ((show ¬ (2 : Int32) = -1 by decide)) sz) (vx_cwSW 1 F.1.2.2.2.2 gL_thrown_L_failedCommand rfl rfl rfl (by decide +kernel) ⟨Nat.le_of_ble_eq_true rfl, Nat.le_of_ble_eq_true rfl⟩) (List.append_nil _).symm [] rfl rfl (by decide) rfl rfl (Nat.le_of_ble_eq_true rfl) dL_thrown_1148 ⟨Nat.le_of_ble_eq_true rfl, Nat.le_of_ble_eq_true rfl⟩) (List.append_nil _).symm (fun _ => rfl) (fun _ => List.append_nil _) (fun r1148 _ hw1148 => ?_)
                                                                                                                                refine z_top hw1148 ?_
                                                                                                                                refine z_top (y := 2) (rfl) ?_
                                                                                                                                refine z_iconst (v := 2) F dL_thrown_1151 (by decide) ?_
                                                                                                                                refine z_icmp_ne (tgt := 1204) F dL_thrown_1152 (by decide) (fun c65 => ?_) (fun c65 => ?_)
                                                                                                                                · exact absurd (by decide) c65
                                                                                                                                · refine z_aload_n F 1 dL_thrown_1155 rfl rfl ?_
                                                                                                                                  refine z_ldcsw F (a9 := fs 13) (E.2.1.2 5 _ rfl) dL_thrown_1156 ?_
                                                                                                                                  refine z_ws (ws' := (sysD g a ((inK (errK k 0 2) 0)) x1138 o1 j1138)) (rfl) ?_
                                                                                                                                  refine z_sysi (wf := fun u1159 => (sysD g a u1159.1 u1159.2.1 o1 u1159.2.2)) F (z_sysS (X := sysD g a ((inK (errK k 0 2) 0)) x1138 o1 j1138) (Y := []) (st := []) F ((zEnvL_ok er D g dg ec fs fv qa sw sb sn xs)) E (fun sz => k_L_runs l hl9 D g er dg ec fs fv qa sw sb sn xs a ((errK k 0 2)) x1138 o1 j1138 13 (hm8) (hj1138) (hn) (hc9) ((by decide)) sz) (va_cwS 2 F.1.2.2.2.2 gL_thrown_L_runs rfl rfl rfl (by decide +kernel) ⟨Nat.le_of_ble_eq_true rfl, Nat.le_of_ble_eq_true rfl⟩) (List.append_nil _).symm [] rfl rfl (by decide) rfl rfl (Nat.le_of_ble_eq_true rfl) dL_thrown_1159 ⟨Nat.le_of_ble_eq_true rfl, Nat.le_of_ble_eq_true rfl⟩) (List.append_nil _).symm (fun _ => rfl) (fun _ => List.append_nil _) (fun r1159 u1159 hw1159 => ?_)
                                                                                                                                  obtain ⟨k1159, x1159, j1159⟩ := u1159
                                                                                                                                  try dsimp only at hw1159
                                                                                                                                  refine z_ws (ws' := (sysD g a k1159 x1159 o1 j1159)) rfl ?_
                                                                                                                                  obtain ⟨e1, e2, hj1159⟩ := t_r13 (k := (errK k 0 2)) h3 hm8 hw1159.1 hw1159.2
                                                                                                                                  subst e2
                                                                                                                                  refine z_ws (ws' := (sysD g a ((errK k 0 0)) x1159 o1 j1159)) rfl ?_
                                                                                                                                  refine z_top (y := -1002) e1 ?_
                                                                                                                                  refine z_sipush (v := (-1002)) F dL_thrown_1162 (by decide) ?_
                                                                                                                                  refine z_icmp_ne (tgt := 1204) F dL_thrown_1165 (by decide) (fun c66 => ?_) (fun c66 => ?_)
                                                                                                                                  · exact absurd (by decide) c66
                                                                                                                                  · refine z_aload_n F 1 dL_thrown_1168 rfl rfl ?_
                                                                                                                                    refine z_sysi (wf := fun _ => (sysD g a ((errK k 0 0)) x1159 o1 j1159)) F (z_sysW (X := sysD g a ((errK k 0 0)) x1159 o1 j1159) (Y := []) (st := []) F ((zEnvL_ok er D g dg ec fs fv qa sw sb sn xs)) E (fun sz => c_L_failedCommand l D g er dg ec fs fv qa sw sb sn xs a ((errK k 0 0)) x1159 o1 j1159 ((show ¬ (0 : Int32) = -1 by decide)) sz) (vx_cwSW 1 F.1.2.2.2.2 gL_thrown_L_failedCommand rfl rfl rfl (by decide +kernel) ⟨Nat.le_of_ble_eq_true rfl, Nat.le_of_ble_eq_true rfl⟩) (List.append_nil _).symm [] rfl rfl (by decide) rfl rfl (Nat.le_of_ble_eq_true rfl) dL_thrown_1169 ⟨Nat.le_of_ble_eq_true rfl, Nat.le_of_ble_eq_true rfl⟩) (List.append_nil _).symm (fun _ => rfl) (fun _ => List.append_nil _) (fun r1169 _ hw1169 => ?_)
                                                                                                                                    refine z_top hw1169 ?_
                                                                                                                                    refine z_top (y := 0) (rfl) ?_
                                                                                                                                    refine z_if_ne (tgt := 1204) F dL_thrown_1172 (by decide) (fun c67 => ?_) (fun c67 => ?_)
                                                                                                                                    · exact absurd (by decide) c67
                                                                                                                                    · refine z_aload_n F 1 dL_thrown_1175 rfl rfl ?_
                                                                                                                                      refine z_sysi (wf := fun _ => (sysD g a ((errK k 0 0)) x1159 o1 j1159)) F (z_sysW (X := sysD g a ((errK k 0 0)) x1159 o1 j1159) (Y := []) (st := []) F ((zEnvL_ok er D g dg ec fs fv qa sw sb sn xs)) E (fun sz => c_L_errorPosition l D g er dg ec fs fv qa sw sb sn xs a ((errK k 0 0)) x1159 o1 j1159 ((show ¬ (0 : Int32) = -1 by decide)) sz) (vx_cwSW 1 F.1.2.2.2.2 gL_thrown_L_errorPosition rfl rfl rfl (by decide +kernel) ⟨Nat.le_of_ble_eq_true rfl, Nat.le_of_ble_eq_true rfl⟩) (List.append_nil _).symm [] rfl rfl (by decide) rfl rfl (Nat.le_of_ble_eq_true rfl) dL_thrown_1176 ⟨Nat.le_of_ble_eq_true rfl, Nat.le_of_ble_eq_true rfl⟩) (List.append_nil _).symm (fun _ => rfl) (fun _ => List.append_nil _) (fun r1176 _ hw1176 => ?_)
                                                                                                                                      refine z_top hw1176 ?_
                                                                                                                                      refine z_top (y := 0) (rfl) ?_
                                                                                                                                      refine z_if_ne (tgt := 1204) F dL_thrown_1179 (by decide) (fun c68 => ?_) (fun c68 => ?_)
                                                                                                                                      · exact absurd (by decide) c68
                                                                                                                                      · refine z_aload_n F 1 dL_thrown_1182 rfl rfl ?_
                                                                                                                                        refine z_calli0 F (z_runV (st := []) F (zEnv_ok er) E.1.1.1.1 (fun sz => c_X10_undoCount l D g er a (kN ((errK k 0 0))) (kC ((errK k 0 0))) (kV ((errK k 0 0))) (kE ((errK k 0 0))) (kF ((errK k 0 0))) sz) (cwV 0 F.1.2.2.2.2 gL_thrown_X10_undoCount rfl rfl rfl (by decide +kernel) ⟨Nat.le_of_ble_eq_true rfl, Nat.le_of_ble_eq_true rfl⟩) 0 rfl rfl rfl [] [0, 33] rfl rfl (by decide) rfl rfl (Nat.le_of_ble_eq_true rfl) dL_thrown_1183 ⟨Nat.le_of_ble_eq_true rfl, Nat.le_of_ble_eq_true rfl⟩) (fun r70 _ hw69 => ?_)
                                                                                                                                        subst hw69
                                                                                                                                        refine z_top (y := nI (kC k)) (rfl) ?_
                                                                                                                                        refine z_iload F 4 dL_thrown_1186 rfl ?_
                                                                                                                                        refine z_icmp_ne (tgt := 1204) F dL_thrown_1188 (by decide) (fun c71 => ?_) (fun c71 => ?_)
                                                                                                                                        · exact absurd rfl c71
                                                                                                                                        · refine z_aload_n F 1 dL_thrown_1191 rfl rfl ?_
                                                                                                                                          refine z_sysl (wf := fun u1192 => (sysD g a ((errK k 0 0)) x1159 u1192.1 u1192.2)) F (z_sysS (X := sysD g a ((errK k 0 0)) x1159 o1 j1159) (Y := []) (st := []) F ((zEnvL_ok er D g dg ec fs fv qa sw sb sn xs)) E (fun sz => c_L_asks l hl9 D g er dg ec fs fv qa sw sb sn xs a ((errK k 0 0)) x1159 o1 j1159 (hFl) (hm8) ((show 2 ≤ lMc (kL k) by omega)) (hw1.2.2.1) (hw1.2.2.2.1) sz) (va_cwS 1 F.1.2.2.2.2 gL_thrown_L_asks rfl rfl rfl (by decide +kernel) ⟨Nat.le_of_ble_eq_true rfl, Nat.le_of_ble_eq_true rfl⟩) (List.append_nil _).symm [] rfl rfl (by decide) rfl rfl (Nat.le_of_ble_eq_true rfl) dL_thrown_1192 ⟨Nat.le_of_ble_eq_true rfl, Nat.le_of_ble_eq_true rfl⟩) (List.append_nil _).symm (fun _ => rfl) (fun _ => List.append_nil _) (fun r1192 u1192 hw1192 => ?_)
                                                                                                                                          obtain ⟨o1192, j1192⟩ := u1192
                                                                                                                                          try dsimp only at hw1192
                                                                                                                                          refine z_ws (ws' := (sysD g a ((errK k 0 0)) x1159 o1192 j1192)) rfl ?_
                                                                                                                                          refine z_lload_n F 2 dL_thrown_1195 rfl rfl ?_
                                                                                                                                          refine z_lcmp F dL_thrown_1196 ?_
                                                                                                                                          refine z_top (y := 0) (by rw [show r1192 = f_asks (kL k) from hw1192.1, show r1 = f_asks (kL k) from hw1.1]; exact z_lgs _) ?_
                                                                                                                                          refine z_if_ne (tgt := 1204) F dL_thrown_1197 (by decide) (fun c72 => ?_) (fun c72 => ?_)
                                                                                                                                          · exact absurd (by decide) c72
                                                                                                                                          · refine z_iconst (v := 1) F dL_thrown_1200 (by decide) ?_
                                                                                                                                            refine z_goto (tgt := 1205) F dL_thrown_1201 (by decide) ?_
                                                                                                                                            refine z_wide (k := 3800) (n := 260000) (by first | exact Nat.le_of_ble_eq_true rfl | omega) (by first | exact Nat.le_of_ble_eq_true rfl | omega) ?_
                                                                                                                                            exact z_zret F hA hQ hlk hr (rfl) ((errK k 0 0), x1159, o1192, j1192) (⟨rfl, rfl, hw1192.2.2.1, hw1192.2.2.2.1, by rw [hw1192.2.2.2.2]; exact hj1159⟩) (rfl) dL_thrown_1205
                                                                                                                refine z_if_gt (tgt := 1068) F dL_thrown_1045 (by decide) (fun c73 => ?_) (fun c73 => ?_)
                                                                                                                · refine z_loc (lv' := [(0, .ref (a 0)), (1, .long r1), (3, .int (nI (lMc (kL k)))), (4, .int (nI (kC k)))]) [0, 1, 2, 3] rfl ?_
                                                                                                                  refine z_wide (k := 1975) (n := 120950) (by first | exact Nat.le_of_ble_eq_true rfl | omega) (by first | exact Nat.le_of_ble_eq_true rfl | omega) ?_
                                                                                                                  exact L1068
                                                                                                                · have hdc := c73
                                                                                                                  refine z_aload_n F 0 dL_thrown_1048 rfl rfl ?_
                                                                                                                  refine z_sysi (wf := fun _ => (sysD g a k x o1 j1)) F (z_sysW (X := sysD g a k x o1 j1) (Y := []) (st := []) F ((zEnvL_ok er D g dg ec fs fv qa sw sb sn xs)) E (fun sz => c_L_largestDebtor l hl9 D g er dg ec fs fv qa sw sb sn xs a k x o1 j1 (hm8) sz) (vx_cwSW 1 F.1.2.2.2.2 gL_thrown_L_largestDebtor rfl rfl rfl (by decide +kernel) ⟨Nat.le_of_ble_eq_true rfl, Nat.le_of_ble_eq_true rfl⟩) (List.append_nil _).symm [] rfl rfl (by decide) rfl rfl (Nat.le_of_ble_eq_true rfl) dL_thrown_1049 ⟨Nat.le_of_ble_eq_true rfl, Nat.le_of_ble_eq_true rfl⟩) (List.append_nil _).symm (fun _ => rfl) (fun _ => List.append_nil _) (fun r1049 _ hw1049 => ?_)
                                                                                                                  refine z_top hw1049 ?_
                                                                                                                  refine z_top (y := -1001) (zIfE (c := 5) (t_plc hdc) (by decide)) ?_
                                                                                                                  refine z_sipush (v := (-1001)) F dL_thrown_1052 (by decide) ?_
                                                                                                                  refine z_icmp_ne (tgt := 1106) F dL_thrown_1055 (by decide) (fun c74 => ?_) (fun c74 => ?_)
                                                                                                                  · exact absurd (by decide) c74
                                                                                                                  · refine z_aload_n F 0 dL_thrown_1058 rfl rfl ?_
                                                                                                                    refine z_sysi (wf := fun _ => (sysD g a k x o1 j1)) F (z_sysW (X := sysD g a k x o1 j1) (Y := []) (st := []) F ((zEnvL_ok er D g dg ec fs fv qa sw sb sn xs)) E (fun sz => c_L_largestCreditor l hl9 D g er dg ec fs fv qa sw sb sn xs a k x o1 j1 (hm8) sz) (vx_cwSW 1 F.1.2.2.2.2 gL_thrown_L_largestCreditor rfl rfl rfl (by decide +kernel) ⟨Nat.le_of_ble_eq_true rfl, Nat.le_of_ble_eq_true rfl⟩) (List.append_nil _).symm [] rfl rfl (by decide) rfl rfl (Nat.le_of_ble_eq_true rfl) dL_thrown_1059 ⟨Nat.le_of_ble_eq_true rfl, Nat.le_of_ble_eq_true rfl⟩) (List.append_nil _).symm (fun _ => rfl) (fun _ => List.append_nil _) (fun r1059 _ hw1059 => ?_)
                                                                                                                    refine z_top hw1059 ?_
                                                                                                                    refine z_top (y := -1001) (zIfE (c := 5) (t_plc hdc) (by decide)) ?_
                                                                                                                    refine z_sipush (v := (-1001)) F dL_thrown_1062 (by decide) ?_
                                                                                                                    refine z_icmp_ne (tgt := 1106) F dL_thrown_1065 (by decide) (fun c75 => ?_) (fun c75 => ?_)
                                                                                                                    · exact absurd (by decide) c75
                                                                                                                    · refine z_loc (lv' := [(0, .ref (a 0)), (1, .long r1), (3, .int (nI (lMc (kL k)))), (4, .int (nI (kC k)))]) [0, 1, 2, 3] rfl ?_
                                                                                                                      refine z_wide (k := 1975) (n := 120950) (by first | exact Nat.le_of_ble_eq_true rfl | omega) (by first | exact Nat.le_of_ble_eq_true rfl | omega) ?_
                                                                                                                      exact L1068
                                                                refine z_loc (lv' := [(0, .ref (a 0)), (1, .long r1), (3, .int (nI (lMc (kL k)))), (4, .int (nI (kC k))), (5, .int 1)]) [0, 1, 2, 3, 4] rfl ?_
                                                                refine z_wide (k := 1940) (n := 120700) (by first | exact Nat.le_of_ble_eq_true rfl | omega) (by first | exact Nat.le_of_ble_eq_true rfl | omega) ?_
                                                                exact L786
                                                              · have hmm : m1 < lMc (kL k) := z_lt (by omega) (by omega) c32
                                                                have hom := z_omem hmm hm8
                                                                have hh1 := z_hasN hmm hm8
                                                                obtain ⟨hd9, hc9a, hli, hco, hbo⟩ := z_thB hM hmm
                                                                obtain ⟨q1, hq1⟩ : ∃ z9, z9 = (m1 + 1) % lMc (kL k) := ⟨_, rfl⟩
                                                                obtain ⟨hq2, hq3⟩ : q1 < lMc (kL k) ∧ q1 ≠ m1 := by rw [hq1]; exact z_q1 hmm h3
                                                                obtain ⟨p1, hp1⟩ : ∃ z9, z9 = (m1 + 2) % lMc (kL k) := ⟨_, rfl⟩
                                                                obtain ⟨hp2, hp3, hp4⟩ : p1 < lMc (kL k) ∧ p1 ≠ m1 ∧ p1 ≠ q1 := by rw [hp1, hq1]; exact z_q2 hmm h3
                                                                have hhq := z_hasN hq2 hm8
                                                                have hhp := z_hasN hp2 hm8
                                                                have nmq : ¬ nI m1 = nI q1 := fun z => hq3 ((nI_eq (by omega) (by omega)).mp z).symm
                                                                have nqp : ¬ nI q1 = nI p1 := fun z => hp4 ((nI_eq (by omega) (by omega)).mp z).symm
                                                                have npm : ¬ nI p1 = nI m1 := fun z => hp3 ((nI_eq (by omega) (by omega)).mp z)
                                                                have ha0 := z_thA hM hmm hq2
                                                                have L780 : zW p l e { frames := 10, cells := 3800, slots := 260000, locals := 223 } s m args below meth c 10 D A Q (1600 + 40 * m1 + 23) (118700 + 240 * m1 + 138) (sysD g a k x o1 j1) [(0, .ref (a 0)), (1, .long r1), (3, .int (nI (lMc (kL k)))), (4, .int (nI (kC k))), (5, .int 1), (6, .int (nI m1))] [] 780 := by
                                                                  refine z_iinc (v := nI (m1 + 1)) (lv' := [(6, .int (nI (m1 + 1))), (0, .ref (a 0)), (1, .long r1), (3, .int (nI (lMc (kL k)))), (4, .int (nI (kC k))), (5, .int 1)]) F dL_thrown_780 5 rfl (nI_1 m1) (by decide) rfl ?_
                                                                  refine z_goto (tgt := 386) F dL_thrown_783 (by decide) ?_
                                                                  refine z_loc (lv' := [(0, .ref (a 0)), (1, .long r1), (3, .int (nI (lMc (kL k)))), (4, .int (nI (kC k))), (5, .int 1), (6, .int (nI (m1 + 1)))]) [1, 2, 3, 4, 5, 0] rfl ?_
                                                                  refine z_wide (k := 1600 + 40 * (m1 + 1)) (n := 118700 + 240 * (m1 + 1)) (by first | exact Nat.le_of_ble_eq_true rfl | omega) (by first | exact Nat.le_of_ble_eq_true rfl | omega) ?_
                                                                  exact ih386 (m1 + 1) (by omega) (by omega)
                                                                have L711 : zW p l e { frames := 10, cells := 3800, slots := 260000, locals := 223 } s m args below meth c 10 D A Q (1600 + 40 * m1 + 19) (118700 + 240 * m1 + 114) (sysD g a k x o1 j1) [(0, .ref (a 0)), (1, .long r1), (3, .int (nI (lMc (kL k)))), (4, .int (nI (kC k))), (5, .int 1), (6, .int (nI m1)), (7, .int (nI q1))] [] 711 := by
                                                                  refine z_iload F 5 dL_thrown_711 rfl ?_
                                                                  refine z_iconst (v := 2) F dL_thrown_713 (by decide) ?_
                                                                  refine z_iadd F dL_thrown_714 ?_
                                                                  refine z_top (y := nI (m1 + 2)) (nI_add m1 2) ?_
                                                                  refine z_iload_n F 2 dL_thrown_715 rfl rfl ?_
                                                                  refine z_irem F dL_thrown_716 (fun z => absurd ((nI_eq (b := 0) (by omega) (by decide)).mp z) (by omega)) ?_
                                                                  refine z_top (y := nI p1) (by rw [hp1]; exact z_modN (by omega) (by omega) (by omega)) ?_
                                                                  refine z_istore (lv' := [(9, .int (nI p1)), (0, .ref (a 0)), (1, .long r1), (3, .int (nI (lMc (kL k)))), (4, .int (nI (kC k))), (5, .int 1), (6, .int (nI m1)), (7, .int (nI q1))]) F dL_thrown_717 (by decide) rfl ?_
                                                                  refine z_aload_n F 1 dL_thrown_719 rfl rfl ?_
                                                                  refine z_iload F 6 dL_thrown_720 rfl ?_
                                                                  refine z_iload F 7 dL_thrown_722 rfl ?_
                                                                  refine z_sysi (wf := fun _ => (sysD g a k x o1 j1)) F (z_sysW (X := sysD g a k x o1 j1) (Y := []) (st := []) F ((zEnvL_ok er D g dg ec fs fv qa sw sb sn xs)) E (fun sz => c_L_owed l hl9 D g er dg ec fs fv qa sw sb sn xs a k x o1 j1 (nI m1) (nI q1) (hm8) sz) (vx_cwSW 3 F.1.2.2.2.2 gL_thrown_L_owed rfl rfl rfl (by decide +kernel) ⟨Nat.le_of_ble_eq_true rfl, Nat.le_of_ble_eq_true rfl⟩) (List.append_nil _).symm [] rfl rfl (by decide) rfl rfl (Nat.le_of_ble_eq_true rfl) dL_thrown_724 ⟨by dsimp only; omega, by dsimp only; omega⟩) (List.append_nil _).symm (fun _ => rfl) (fun _ => List.append_nil _) (fun r724 _ hw724 => ?_)
                                                                  refine z_top hw724 ?_
                                                                  refine z_top (y := lAm (kL k) (8 * z_n (nI m1) + z_n (nI q1))) (zIfZ (t_pr0 hh1 hhq nmq)) ?_
                                                                  refine z_if_eq (tgt := 752) F dL_thrown_727 (by decide) (fun c76 => ?_) (fun c76 => ?_)
                                                                  · have htr : lAm (kL k) (8 * z_n (nI m1) + z_n (nI q1)) ≤ 0 ∨ lAm (kL k) (8 * z_n (nI q1) + z_n (nI p1)) ≤ 0 ∨ lAm (kL k) (8 * z_n (nI p1) + z_n (nI m1)) ≤ 0 := Or.inl (by rw [c76]; exact Int32.le_refl _)
                                                                    refine z_iload F 5 dL_thrown_752 rfl ?_
                                                                    refine z_if_eq (tgt := 777) F dL_thrown_754 (by decide) (fun c77 => ?_) (fun c77 => ?_)
                                                                    · exact absurd c77 (by decide)
                                                                    · refine z_aload_n F 1 dL_thrown_757 rfl rfl ?_
                                                                      refine z_iload F 6 dL_thrown_758 rfl ?_
                                                                      refine z_iload F 7 dL_thrown_760 rfl ?_
                                                                      refine z_iload F 0 dL_thrown_762 rfl ?_
                                                                      refine z_sysi (wf := fun k764 => (sysD g a k764 x o1 j1)) F (z_sysW (X := sysD g a k x o1 j1) (Y := []) (st := []) F ((zEnvL_ok er D g dg ec fs fv qa sw sb sn xs)) E (fun sz => c_L_netTriangle l hl9 D g er dg ec fs fv qa sw sb sn xs a k x o1 j1 (nI m1) (nI q1) (nI p1) (hm8) (hn) (hc9) sz) (vx_cwSW 4 F.1.2.2.2.2 gL_thrown_L_netTriangle rfl rfl rfl (by decide +kernel) ⟨Nat.le_of_ble_eq_true rfl, Nat.le_of_ble_eq_true rfl⟩) (List.append_nil _).symm [] rfl rfl (by decide) rfl rfl (Nat.le_of_ble_eq_true rfl) dL_thrown_764 ⟨by dsimp only; omega, by dsimp only; omega⟩) (List.append_nil _).symm (fun _ => rfl) (fun _ => List.append_nil _) (fun r764 k764 hw764 => ?_)
                                                                      obtain ⟨e1, e2⟩ := z_ansN hw764 (c := 3) (t_tr3 hh1 hhq hhp nmq nqp npm htr) (by decide)
                                                                      have e2 := e2.symm
                                                                      subst e2
                                                                      refine z_top (y := -1003) e1 ?_
                                                                      refine z_sipush (v := (-1003)) F dL_thrown_767 (by decide) ?_
                                                                      refine z_icmp_ne (tgt := 777) F dL_thrown_770 (by decide) (fun c78 => ?_) (fun c78 => ?_)
                                                                      · exact absurd (by decide) c78
                                                                      · refine z_iconst (v := 1) F dL_thrown_773 (by decide) ?_
                                                                        refine z_goto (tgt := 778) F dL_thrown_774 (by decide) ?_
                                                                        refine z_istore (lv' := [(5, .int 1), (9, .int (nI p1)), (0, .ref (a 0)), (1, .long r1), (3, .int (nI (lMc (kL k)))), (4, .int (nI (kC k))), (6, .int (nI m1)), (7, .int (nI q1))]) F dL_thrown_778 (by decide) rfl ?_
                                                                        refine z_loc (lv' := [(0, .ref (a 0)), (1, .long r1), (3, .int (nI (lMc (kL k)))), (4, .int (nI (kC k))), (5, .int 1), (6, .int (nI m1))]) [2, 3, 4, 5, 0, 6] rfl ?_
                                                                        refine z_wide (k := 1600 + 40 * m1 + 23) (n := 118700 + 240 * m1 + 138) (by first | exact Nat.le_of_ble_eq_true rfl | omega) (by first | exact Nat.le_of_ble_eq_true rfl | omega) ?_
                                                                        exact L780
                                                                  · refine z_aload_n F 1 dL_thrown_730 rfl rfl ?_
                                                                    refine z_iload F 7 dL_thrown_731 rfl ?_
                                                                    refine z_iload F 0 dL_thrown_733 rfl ?_
                                                                    refine z_sysi (wf := fun _ => (sysD g a k x o1 j1)) F (z_sysW (X := sysD g a k x o1 j1) (Y := []) (st := []) F ((zEnvL_ok er D g dg ec fs fv qa sw sb sn xs)) E (fun sz => c_L_owed l hl9 D g er dg ec fs fv qa sw sb sn xs a k x o1 j1 (nI q1) (nI p1) (hm8) sz) (vx_cwSW 3 F.1.2.2.2.2 gL_thrown_L_owed rfl rfl rfl (by decide +kernel) ⟨Nat.le_of_ble_eq_true rfl, Nat.le_of_ble_eq_true rfl⟩) (List.append_nil _).symm [] rfl rfl (by decide) rfl rfl (Nat.le_of_ble_eq_true rfl) dL_thrown_735 ⟨by dsimp only; omega, by dsimp only; omega⟩) (List.append_nil _).symm (fun _ => rfl) (fun _ => List.append_nil _) (fun r735 _ hw735 => ?_)
                                                                    refine z_top hw735 ?_
                                                                    refine z_top (y := lAm (kL k) (8 * z_n (nI q1) + z_n (nI p1))) (zIfZ (t_pr0 hhq hhp nqp)) ?_
                                                                    refine z_if_eq (tgt := 752) F dL_thrown_738 (by decide) (fun c79 => ?_) (fun c79 => ?_)
                                                                    · have htr : lAm (kL k) (8 * z_n (nI m1) + z_n (nI q1)) ≤ 0 ∨ lAm (kL k) (8 * z_n (nI q1) + z_n (nI p1)) ≤ 0 ∨ lAm (kL k) (8 * z_n (nI p1) + z_n (nI m1)) ≤ 0 := Or.inr (Or.inl (by rw [c79]; exact Int32.le_refl _))
                                                                      refine z_iload F 5 dL_thrown_752 rfl ?_
                                                                      refine z_if_eq (tgt := 777) F dL_thrown_754 (by decide) (fun c80 => ?_) (fun c80 => ?_)
                                                                      · exact absurd c80 (by decide)
                                                                      · refine z_aload_n F 1 dL_thrown_757 rfl rfl ?_
                                                                        refine z_iload F 6 dL_thrown_758 rfl ?_
                                                                        refine z_iload F 7 dL_thrown_760 rfl ?_
                                                                        refine z_iload F 0 dL_thrown_762 rfl ?_
                                                                        refine z_sysi (wf := fun k764 => (sysD g a k764 x o1 j1)) F (z_sysW (X := sysD g a k x o1 j1) (Y := []) (st := []) F ((zEnvL_ok er D g dg ec fs fv qa sw sb sn xs)) E (fun sz => c_L_netTriangle l hl9 D g er dg ec fs fv qa sw sb sn xs a k x o1 j1 (nI m1) (nI q1) (nI p1) (hm8) (hn) (hc9) sz) (vx_cwSW 4 F.1.2.2.2.2 gL_thrown_L_netTriangle rfl rfl rfl (by decide +kernel) ⟨Nat.le_of_ble_eq_true rfl, Nat.le_of_ble_eq_true rfl⟩) (List.append_nil _).symm [] rfl rfl (by decide) rfl rfl (Nat.le_of_ble_eq_true rfl) dL_thrown_764 ⟨by dsimp only; omega, by dsimp only; omega⟩) (List.append_nil _).symm (fun _ => rfl) (fun _ => List.append_nil _) (fun r764 k764 hw764 => ?_)
                                                                        obtain ⟨e1, e2⟩ := z_ansN hw764 (c := 3) (t_tr3 hh1 hhq hhp nmq nqp npm htr) (by decide)
                                                                        have e2 := e2.symm
                                                                        subst e2
                                                                        refine z_top (y := -1003) e1 ?_
                                                                        refine z_sipush (v := (-1003)) F dL_thrown_767 (by decide) ?_
                                                                        refine z_icmp_ne (tgt := 777) F dL_thrown_770 (by decide) (fun c81 => ?_) (fun c81 => ?_)
                                                                        · exact absurd (by decide) c81
                                                                        · refine z_iconst (v := 1) F dL_thrown_773 (by decide) ?_
                                                                          refine z_goto (tgt := 778) F dL_thrown_774 (by decide) ?_
                                                                          refine z_istore (lv' := [(5, .int 1), (9, .int (nI p1)), (0, .ref (a 0)), (1, .long r1), (3, .int (nI (lMc (kL k)))), (4, .int (nI (kC k))), (6, .int (nI m1)), (7, .int (nI q1))]) F dL_thrown_778 (by decide) rfl ?_
                                                                          refine z_loc (lv' := [(0, .ref (a 0)), (1, .long r1), (3, .int (nI (lMc (kL k)))), (4, .int (nI (kC k))), (5, .int 1), (6, .int (nI m1))]) [2, 3, 4, 5, 0, 6] rfl ?_
                                                                          refine z_wide (k := 1600 + 40 * m1 + 23) (n := 118700 + 240 * m1 + 138) (by first | exact Nat.le_of_ble_eq_true rfl | omega) (by first | exact Nat.le_of_ble_eq_true rfl | omega) ?_
                                                                          exact L780
                                                                    · refine z_aload_n F 1 dL_thrown_741 rfl rfl ?_
                                                                      refine z_iload F 0 dL_thrown_742 rfl ?_
                                                                      refine z_iload F 6 dL_thrown_744 rfl ?_
                                                                      refine z_sysi (wf := fun _ => (sysD g a k x o1 j1)) F (z_sysW (X := sysD g a k x o1 j1) (Y := []) (st := []) F ((zEnvL_ok er D g dg ec fs fv qa sw sb sn xs)) E (fun sz => c_L_owed l hl9 D g er dg ec fs fv qa sw sb sn xs a k x o1 j1 (nI p1) (nI m1) (hm8) sz) (vx_cwSW 3 F.1.2.2.2.2 gL_thrown_L_owed rfl rfl rfl (by decide +kernel) ⟨Nat.le_of_ble_eq_true rfl, Nat.le_of_ble_eq_true rfl⟩) (List.append_nil _).symm [] rfl rfl (by decide) rfl rfl (Nat.le_of_ble_eq_true rfl) dL_thrown_746 ⟨by dsimp only; omega, by dsimp only; omega⟩) (List.append_nil _).symm (fun _ => rfl) (fun _ => List.append_nil _) (fun r746 _ hw746 => ?_)
                                                                      refine z_top hw746 ?_
                                                                      refine z_top (y := lAm (kL k) (8 * z_n (nI p1) + z_n (nI m1))) (zIfZ (t_pr0 hhp hh1 npm)) ?_
                                                                      refine z_if_ne (tgt := 780) F dL_thrown_749 (by decide) (fun c82 => ?_) (fun c82 => ?_)
                                                                      · refine z_loc (lv' := [(0, .ref (a 0)), (1, .long r1), (3, .int (nI (lMc (kL k)))), (4, .int (nI (kC k))), (5, .int 1), (6, .int (nI m1))]) [1, 2, 3, 4, 5, 6] rfl ?_
                                                                        refine z_wide (k := 1600 + 40 * m1 + 23) (n := 118700 + 240 * m1 + 138) (by first | exact Nat.le_of_ble_eq_true rfl | omega) (by first | exact Nat.le_of_ble_eq_true rfl | omega) ?_
                                                                        exact L780
                                                                      · have htr : lAm (kL k) (8 * z_n (nI m1) + z_n (nI q1)) ≤ 0 ∨ lAm (kL k) (8 * z_n (nI q1) + z_n (nI p1)) ≤ 0 ∨ lAm (kL k) (8 * z_n (nI p1) + z_n (nI m1)) ≤ 0 := Or.inr (Or.inr (by rw [c82]; exact Int32.le_refl _))
                                                                        refine z_iload F 5 dL_thrown_752 rfl ?_
                                                                        refine z_if_eq (tgt := 777) F dL_thrown_754 (by decide) (fun c83 => ?_) (fun c83 => ?_)
                                                                        · exact absurd c83 (by decide)
                                                                        · refine z_aload_n F 1 dL_thrown_757 rfl rfl ?_
                                                                          refine z_iload F 6 dL_thrown_758 rfl ?_
                                                                          refine z_iload F 7 dL_thrown_760 rfl ?_
                                                                          refine z_iload F 0 dL_thrown_762 rfl ?_
                                                                          refine z_sysi (wf := fun k764 => (sysD g a k764 x o1 j1)) F (z_sysW (X := sysD g a k x o1 j1) (Y := []) (st := []) F ((zEnvL_ok er D g dg ec fs fv qa sw sb sn xs)) E (fun sz => c_L_netTriangle l hl9 D g er dg ec fs fv qa sw sb sn xs a k x o1 j1 (nI m1) (nI q1) (nI p1) (hm8) (hn) (hc9) sz) (vx_cwSW 4 F.1.2.2.2.2 gL_thrown_L_netTriangle rfl rfl rfl (by decide +kernel) ⟨Nat.le_of_ble_eq_true rfl, Nat.le_of_ble_eq_true rfl⟩) (List.append_nil _).symm [] rfl rfl (by decide) rfl rfl (Nat.le_of_ble_eq_true rfl) dL_thrown_764 ⟨by dsimp only; omega, by dsimp only; omega⟩) (List.append_nil _).symm (fun _ => rfl) (fun _ => List.append_nil _) (fun r764 k764 hw764 => ?_)
                                                                          obtain ⟨e1, e2⟩ := z_ansN hw764 (c := 3) (t_tr3 hh1 hhq hhp nmq nqp npm htr) (by decide)
                                                                          have e2 := e2.symm
                                                                          subst e2
                                                                          refine z_top (y := -1003) e1 ?_
                                                                          refine z_sipush (v := (-1003)) F dL_thrown_767 (by decide) ?_
                                                                          refine z_icmp_ne (tgt := 777) F dL_thrown_770 (by decide) (fun c84 => ?_) (fun c84 => ?_)
                                                                          · exact absurd (by decide) c84
                                                                          · refine z_iconst (v := 1) F dL_thrown_773 (by decide) ?_
                                                                            refine z_goto (tgt := 778) F dL_thrown_774 (by decide) ?_
                                                                            refine z_istore (lv' := [(5, .int 1), (9, .int (nI p1)), (0, .ref (a 0)), (1, .long r1), (3, .int (nI (lMc (kL k)))), (4, .int (nI (kC k))), (6, .int (nI m1)), (7, .int (nI q1))]) F dL_thrown_778 (by decide) rfl ?_
                                                                            refine z_loc (lv' := [(0, .ref (a 0)), (1, .long r1), (3, .int (nI (lMc (kL k)))), (4, .int (nI (kC k))), (5, .int 1), (6, .int (nI m1))]) [2, 3, 4, 5, 0, 6] rfl ?_
                                                                            refine z_wide (k := 1600 + 40 * m1 + 23) (n := 118700 + 240 * m1 + 138) (by first | exact Nat.le_of_ble_eq_true rfl | omega) (by first | exact Nat.le_of_ble_eq_true rfl | omega) ?_
                                                                            exact L780
                                                                have L660 : zW p l e { frames := 10, cells := 3800, slots := 260000, locals := 223 } s m args below meth c 10 D A Q (1600 + 40 * m1 + 15) (118700 + 240 * m1 + 90) (sysD g a k x o1 j1) [(0, .ref (a 0)), (1, .long r1), (3, .int (nI (lMc (kL k)))), (4, .int (nI (kC k))), (5, .int 1), (6, .int (nI m1)), (7, .int (nI q1))] [] 660 := by
                                                                  refine z_aload_n F 0 dL_thrown_660 rfl rfl ?_
                                                                  refine z_iload F 5 dL_thrown_661 rfl ?_
                                                                  refine z_iload F 6 dL_thrown_663 rfl ?_
                                                                  refine z_sysi (wf := fun _ => (sysD g a k x o1 j1)) F (z_sysW (X := sysD g a k x o1 j1) (Y := []) (st := []) F ((zEnvL_ok er D g dg ec fs fv qa sw sb sn xs)) E (fun sz => c_L_owed l hl9 D g er dg ec fs fv qa sw sb sn xs a k x o1 j1 (nI m1) (nI q1) (hm8) sz) (vx_cwSW 3 F.1.2.2.2.2 gL_thrown_L_owed rfl rfl rfl (by decide +kernel) ⟨Nat.le_of_ble_eq_true rfl, Nat.le_of_ble_eq_true rfl⟩) (List.append_nil _).symm [] rfl rfl (by decide) rfl rfl (Nat.le_of_ble_eq_true rfl) dL_thrown_665 ⟨by dsimp only; omega, by dsimp only; omega⟩) (List.append_nil _).symm (fun _ => rfl) (fun _ => List.append_nil _) (fun r665 _ hw665 => ?_)
                                                                  refine z_top hw665 ?_
                                                                  refine z_top (y := lAm (kL k) (8 * z_n (nI m1) + z_n (nI q1))) (zIfZ (t_pr0 hh1 hhq nmq)) ?_
                                                                  refine z_aload_n F 0 dL_thrown_668 rfl rfl ?_
                                                                  refine z_iload F 5 dL_thrown_669 rfl ?_
                                                                  refine z_sysi (wf := fun _ => (sysD g a k x o1 j1)) F (z_sysW (X := sysD g a k x o1 j1) (Y := []) (st := [.int (lAm (kL k) (8 * z_n (nI m1) + z_n (nI q1)))]) F ((zEnvL_ok er D g dg ec fs fv qa sw sb sn xs)) E (fun sz => c_L_coins l hl9 D g er dg ec fs fv qa sw sb sn xs a k x o1 j1 (nI m1) (hm8) sz) (vx_cwSW 2 F.1.2.2.2.2 gL_thrown_L_coins rfl rfl rfl (by decide +kernel) ⟨Nat.le_of_ble_eq_true rfl, Nat.le_of_ble_eq_true rfl⟩) (List.append_nil _).symm [] rfl rfl (by decide) rfl rfl (Nat.le_of_ble_eq_true rfl) dL_thrown_671 ⟨by dsimp only; omega, by dsimp only; omega⟩) (List.append_nil _).symm (fun _ => rfl) (fun _ => List.append_nil _) (fun r671 _ hw671 => ?_)
                                                                  refine z_top hw671 ?_
                                                                  refine z_top (y := 30) ((zIfZ hom).trans hco) ?_
                                                                  refine z_icmp_le (tgt := 711) F dL_thrown_674 (by decide) (fun c85 => ?_) (fun c85 => ?_)
                                                                  · refine z_wide (k := 1600 + 40 * m1 + 19) (n := 118700 + 240 * m1 + 114) (by first | exact Nat.le_of_ble_eq_true rfl | omega) (by first | exact Nat.le_of_ble_eq_true rfl | omega) ?_
                                                                    exact L711
                                                                  · have hcb := c85
                                                                    refine z_iload F 4 dL_thrown_677 rfl ?_
                                                                    refine z_if_eq (tgt := 708) F dL_thrown_679 (by decide) (fun c86 => ?_) (fun c86 => ?_)
                                                                    · exact absurd c86 (by decide)
                                                                    · refine z_aload_n F 0 dL_thrown_682 rfl rfl ?_
                                                                      refine z_iload F 5 dL_thrown_683 rfl ?_
                                                                      refine z_iload F 6 dL_thrown_685 rfl ?_
                                                                      refine z_aload_n F 0 dL_thrown_687 rfl rfl ?_
                                                                      refine z_iload F 5 dL_thrown_688 rfl ?_
                                                                      refine z_sysi (wf := fun _ => (sysD g a k x o1 j1)) F (z_sysW (X := sysD g a k x o1 j1) (Y := []) (st := [.int (nI q1), .int (nI m1), .ref (a 0)]) F ((zEnvL_ok er D g dg ec fs fv qa sw sb sn xs)) E (fun sz => c_L_coins l hl9 D g er dg ec fs fv qa sw sb sn xs a k x o1 j1 (nI m1) (hm8) sz) (vx_cwSW 2 F.1.2.2.2.2 gL_thrown_L_coins rfl rfl rfl (by decide +kernel) ⟨Nat.le_of_ble_eq_true rfl, Nat.le_of_ble_eq_true rfl⟩) (List.append_nil _).symm [] rfl rfl (by decide) rfl rfl (Nat.le_of_ble_eq_true rfl) dL_thrown_690 ⟨by dsimp only; omega, by dsimp only; omega⟩) (List.append_nil _).symm (fun _ => rfl) (fun _ => List.append_nil _) (fun r690 _ hw690 => ?_)
                                                                      refine z_top hw690 ?_
                                                                      refine z_top (y := 30) ((zIfZ hom).trans hco) ?_
                                                                      refine z_iconst (v := 1) F dL_thrown_693 (by decide) ?_
                                                                      refine z_iadd F dL_thrown_694 ?_
                                                                      refine z_sysi (wf := fun k695 => (sysD g a k695 x o1 j1)) F (z_sysW (X := sysD g a k x o1 j1) (Y := []) (st := []) F ((zEnvL_ok er D g dg ec fs fv qa sw sb sn xs)) E (fun sz => c_L_pay l hl9 D g er dg ec fs fv qa sw sb sn xs a k x o1 j1 (nI m1) (nI q1) (30 + 1) (hm8) (hn) (hc9) sz) (vx_cwSW 4 F.1.2.2.2.2 gL_thrown_L_pay rfl rfl rfl (by decide +kernel) ⟨Nat.le_of_ble_eq_true rfl, Nat.le_of_ble_eq_true rfl⟩) (List.append_nil _).symm [] rfl rfl (by decide) rfl rfl (Nat.le_of_ble_eq_true rfl) dL_thrown_695 ⟨by dsimp only; omega, by dsimp only; omega⟩) (List.append_nil _).symm (fun _ => rfl) (fun _ => List.append_nil _) (fun r695 k695 hw695 => ?_)
                                                                      obtain ⟨e1, e2⟩ := z_ansN hw695 (c := 4) (t_py4 (t_pa0 (t_pr0 hh1 hhq nmq) (by decide)) (z_py31 hcb) (by rw [hco]; decide)) (by decide)
                                                                      have e2 := e2.symm
                                                                      subst e2
                                                                      refine z_top (y := -1004) e1 ?_
                                                                      refine z_sipush (v := (-1004)) F dL_thrown_698 (by decide) ?_
                                                                      refine z_icmp_ne (tgt := 708) F dL_thrown_701 (by decide) (fun c87 => ?_) (fun c87 => ?_)
                                                                      · exact absurd (by decide) c87
                                                                      · refine z_iconst (v := 1) F dL_thrown_704 (by decide) ?_
                                                                        refine z_goto (tgt := 709) F dL_thrown_705 (by decide) ?_
                                                                        refine z_istore (lv' := [(5, .int 1), (0, .ref (a 0)), (1, .long r1), (3, .int (nI (lMc (kL k)))), (4, .int (nI (kC k))), (6, .int (nI m1)), (7, .int (nI q1))]) F dL_thrown_709 (by decide) rfl ?_
                                                                        refine z_loc (lv' := [(0, .ref (a 0)), (1, .long r1), (3, .int (nI (lMc (kL k)))), (4, .int (nI (kC k))), (5, .int 1), (6, .int (nI m1)), (7, .int (nI q1))]) [1, 2, 3, 4, 0, 5, 6] rfl ?_
                                                                        refine z_wide (k := 1600 + 40 * m1 + 19) (n := 118700 + 240 * m1 + 114) (by first | exact Nat.le_of_ble_eq_true rfl | omega) (by first | exact Nat.le_of_ble_eq_true rfl | omega) ?_
                                                                        exact L711
                                                                have L611 : zW p l e { frames := 10, cells := 3800, slots := 260000, locals := 223 } s m args below meth c 10 D A Q (1600 + 40 * m1 + 12) (118700 + 240 * m1 + 72) (sysD g a k x o1 j1) [(0, .ref (a 0)), (1, .long r1), (3, .int (nI (lMc (kL k)))), (4, .int (nI (kC k))), (5, .int 1), (6, .int (nI m1)), (7, .int (nI q1))] [] 611 := by
                                                                  refine z_aload_n F 0 dL_thrown_611 rfl rfl ?_
                                                                  refine z_iload F 5 dL_thrown_612 rfl ?_
                                                                  refine z_iload F 6 dL_thrown_614 rfl ?_
                                                                  refine z_sysi (wf := fun _ => (sysD g a k x o1 j1)) F (z_sysW (X := sysD g a k x o1 j1) (Y := []) (st := []) F ((zEnvL_ok er D g dg ec fs fv qa sw sb sn xs)) E (fun sz => c_L_owed l hl9 D g er dg ec fs fv qa sw sb sn xs a k x o1 j1 (nI m1) (nI q1) (hm8) sz) (vx_cwSW 3 F.1.2.2.2.2 gL_thrown_L_owed rfl rfl rfl (by decide +kernel) ⟨Nat.le_of_ble_eq_true rfl, Nat.le_of_ble_eq_true rfl⟩) (List.append_nil _).symm [] rfl rfl (by decide) rfl rfl (Nat.le_of_ble_eq_true rfl) dL_thrown_616 ⟨by dsimp only; omega, by dsimp only; omega⟩) (List.append_nil _).symm (fun _ => rfl) (fun _ => List.append_nil _) (fun r616 _ hw616 => ?_)
                                                                  refine z_top hw616 ?_
                                                                  refine z_top (y := lAm (kL k) (8 * z_n (nI m1) + z_n (nI q1))) (zIfZ (t_pr0 hh1 hhq nmq)) ?_
                                                                  refine z_bipush (v := 99) F dL_thrown_619 (by decide) ?_
                                                                  refine z_icmp_ge (tgt := 660) F dL_thrown_621 (by decide) (fun c88 => ?_) (fun c88 => ?_)
                                                                  · refine z_wide (k := 1600 + 40 * m1 + 15) (n := 118700 + 240 * m1 + 90) (by first | exact Nat.le_of_ble_eq_true rfl | omega) (by first | exact Nat.le_of_ble_eq_true rfl | omega) ?_
                                                                    exact L660
                                                                  · have hca := c88
                                                                    refine z_iload F 4 dL_thrown_624 rfl ?_
                                                                    refine z_if_eq (tgt := 657) F dL_thrown_626 (by decide) (fun c89 => ?_) (fun c89 => ?_)
                                                                    · exact absurd c89 (by decide)
                                                                    · refine z_aload_n F 0 dL_thrown_629 rfl rfl ?_
                                                                      refine z_iload F 5 dL_thrown_630 rfl ?_
                                                                      refine z_iload F 6 dL_thrown_632 rfl ?_
                                                                      refine z_aload_n F 0 dL_thrown_634 rfl rfl ?_
                                                                      refine z_iload F 5 dL_thrown_635 rfl ?_
                                                                      refine z_iload F 6 dL_thrown_637 rfl ?_
                                                                      refine z_sysi (wf := fun _ => (sysD g a k x o1 j1)) F (z_sysW (X := sysD g a k x o1 j1) (Y := []) (st := [.int (nI q1), .int (nI m1), .ref (a 0)]) F ((zEnvL_ok er D g dg ec fs fv qa sw sb sn xs)) E (fun sz => c_L_owed l hl9 D g er dg ec fs fv qa sw sb sn xs a k x o1 j1 (nI m1) (nI q1) (hm8) sz) (vx_cwSW 3 F.1.2.2.2.2 gL_thrown_L_owed rfl rfl rfl (by decide +kernel) ⟨Nat.le_of_ble_eq_true rfl, Nat.le_of_ble_eq_true rfl⟩) (List.append_nil _).symm [] rfl rfl (by decide) rfl rfl (Nat.le_of_ble_eq_true rfl) dL_thrown_639 ⟨by dsimp only; omega, by dsimp only; omega⟩) (List.append_nil _).symm (fun _ => rfl) (fun _ => List.append_nil _) (fun r639 _ hw639 => ?_)
                                                                      refine z_top hw639 ?_
                                                                      refine z_top (y := lAm (kL k) (8 * z_n (nI m1) + z_n (nI q1))) (zIfZ (t_pr0 hh1 hhq nmq)) ?_
                                                                      refine z_iconst (v := 1) F dL_thrown_642 (by decide) ?_
                                                                      refine z_iadd F dL_thrown_643 ?_
                                                                      refine z_sysi (wf := fun k644 => (sysD g a k644 x o1 j1)) F (z_sysW (X := sysD g a k x o1 j1) (Y := []) (st := []) F ((zEnvL_ok er D g dg ec fs fv qa sw sb sn xs)) E (fun sz => c_L_pay l hl9 D g er dg ec fs fv qa sw sb sn xs a k x o1 j1 (nI m1) (nI q1) ((lAm (kL k) (8 * z_n (nI m1) + z_n (nI q1))) + 1) (hm8) (hn) (hc9) sz) (vx_cwSW 4 F.1.2.2.2.2 gL_thrown_L_pay rfl rfl rfl (by decide +kernel) ⟨Nat.le_of_ble_eq_true rfl, Nat.le_of_ble_eq_true rfl⟩) (List.append_nil _).symm [] rfl rfl (by decide) rfl rfl (Nat.le_of_ble_eq_true rfl) dL_thrown_644 ⟨by dsimp only; omega, by dsimp only; omega⟩) (List.append_nil _).symm (fun _ => rfl) (fun _ => List.append_nil _) (fun r644 k644 hw644 => ?_)
                                                                      obtain ⟨e1, e2⟩ := z_ansN hw644 (c := 3) (t_py3 (t_pa0 (t_pr0 hh1 hhq nmq) (z_py ha0 hca).1) (z_py ha0 hca).2) (by decide)
                                                                      have e2 := e2.symm
                                                                      subst e2
                                                                      refine z_top (y := -1003) e1 ?_
                                                                      refine z_sipush (v := (-1003)) F dL_thrown_647 (by decide) ?_
                                                                      refine z_icmp_ne (tgt := 657) F dL_thrown_650 (by decide) (fun c90 => ?_) (fun c90 => ?_)
                                                                      · exact absurd (by decide) c90
                                                                      · refine z_iconst (v := 1) F dL_thrown_653 (by decide) ?_
                                                                        refine z_goto (tgt := 658) F dL_thrown_654 (by decide) ?_
                                                                        refine z_istore (lv' := [(5, .int 1), (0, .ref (a 0)), (1, .long r1), (3, .int (nI (lMc (kL k)))), (4, .int (nI (kC k))), (6, .int (nI m1)), (7, .int (nI q1))]) F dL_thrown_658 (by decide) rfl ?_
                                                                        refine z_loc (lv' := [(0, .ref (a 0)), (1, .long r1), (3, .int (nI (lMc (kL k)))), (4, .int (nI (kC k))), (5, .int 1), (6, .int (nI m1)), (7, .int (nI q1))]) [1, 2, 3, 4, 0, 5, 6] rfl ?_
                                                                        refine z_wide (k := 1600 + 40 * m1 + 15) (n := 118700 + 240 * m1 + 90) (by first | exact Nat.le_of_ble_eq_true rfl | omega) (by first | exact Nat.le_of_ble_eq_true rfl | omega) ?_
                                                                        exact L660
                                                                have L511 : zW p l e { frames := 10, cells := 3800, slots := 260000, locals := 223 } s m args below meth c 10 D A Q (1600 + 40 * m1 + 8) (118700 + 240 * m1 + 48) (sysD g a k x o1 j1) [(0, .ref (a 0)), (1, .long r1), (3, .int (nI (lMc (kL k)))), (4, .int (nI (kC k))), (5, .int 1), (6, .int (nI m1))] [] 511 := by
                                                                  refine z_iload F 5 dL_thrown_511 rfl ?_
                                                                  refine z_iconst (v := 1) F dL_thrown_513 (by decide) ?_
                                                                  refine z_iadd F dL_thrown_514 ?_
                                                                  refine z_top (y := nI (m1 + 1)) (nI_1 m1) ?_
                                                                  refine z_iload_n F 2 dL_thrown_515 rfl rfl ?_
                                                                  refine z_irem F dL_thrown_516 (fun z => absurd ((nI_eq (b := 0) (by omega) (by decide)).mp z) (by omega)) ?_
                                                                  refine z_top (y := nI q1) (by rw [hq1]; exact z_modN (by omega) (by omega) (by omega)) ?_
                                                                  refine z_istore (lv' := [(7, .int (nI q1)), (0, .ref (a 0)), (1, .long r1), (3, .int (nI (lMc (kL k)))), (4, .int (nI (kC k))), (5, .int 1), (6, .int (nI m1))]) F dL_thrown_517 (by decide) rfl ?_
                                                                  refine z_aload_n F 1 dL_thrown_519 rfl rfl ?_
                                                                  refine z_iload F 6 dL_thrown_520 rfl ?_
                                                                  refine z_sysi (wf := fun _ => (sysD g a k x o1 j1)) F (z_sysW (X := sysD g a k x o1 j1) (Y := []) (st := []) F ((zEnvL_ok er D g dg ec fs fv qa sw sb sn xs)) E (fun sz => c_L_limit l hl9 D g er dg ec fs fv qa sw sb sn xs a k x o1 j1 (nI m1) (hm8) sz) (vx_cwSW 2 F.1.2.2.2.2 gL_thrown_L_limit rfl rfl rfl (by decide +kernel) ⟨Nat.le_of_ble_eq_true rfl, Nat.le_of_ble_eq_true rfl⟩) (List.append_nil _).symm [] rfl rfl (by decide) rfl rfl (Nat.le_of_ble_eq_true rfl) dL_thrown_522 ⟨by dsimp only; omega, by dsimp only; omega⟩) (List.append_nil _).symm (fun _ => rfl) (fun _ => List.append_nil _) (fun r522 _ hw522 => ?_)
                                                                  refine z_top hw522 ?_
                                                                  refine z_top (y := 99) ((zIfZ hom).trans hli) ?_
                                                                  refine z_aload_n F 1 dL_thrown_525 rfl rfl ?_
                                                                  refine z_iload F 6 dL_thrown_526 rfl ?_
                                                                  refine z_sysi (wf := fun _ => (sysD g a k x o1 j1)) F (z_sysW (X := sysD g a k x o1 j1) (Y := []) (st := [.int 99]) F ((zEnvL_ok er D g dg ec fs fv qa sw sb sn xs)) E (fun sz => c_L_debit l hl9 D g er dg ec fs fv qa sw sb sn xs a k x o1 j1 (nI m1) (hm8) sz) (vx_cwSW 2 F.1.2.2.2.2 gL_thrown_L_debit rfl rfl rfl (by decide +kernel) ⟨Nat.le_of_ble_eq_true rfl, Nat.le_of_ble_eq_true rfl⟩) (List.append_nil _).symm [] rfl rfl (by decide) rfl rfl (Nat.le_of_ble_eq_true rfl) dL_thrown_528 ⟨by dsimp only; omega, by dsimp only; omega⟩) (List.append_nil _).symm (fun _ => rfl) (fun _ => List.append_nil _) (fun r528 _ hw528 => ?_)
                                                                  refine z_top hw528 ?_
                                                                  refine z_top (y := f_debit (lAm (kL k)) (z_n (nI m1))) (zIfZ hom) ?_
                                                                  refine z_isub F dL_thrown_531 ?_
                                                                  refine z_istore (lv' := [(8, .int (99 - (f_debit (lAm (kL k)) (z_n (nI m1))))), (7, .int (nI q1)), (0, .ref (a 0)), (1, .long r1), (3, .int (nI (lMc (kL k)))), (4, .int (nI (kC k))), (5, .int 1), (6, .int (nI m1))]) F dL_thrown_532 (by decide) rfl ?_
                                                                  refine z_aload_n F 2 dL_thrown_534 rfl rfl ?_
                                                                  refine z_iload F 7 dL_thrown_535 rfl ?_
                                                                  refine z_sysi (wf := fun _ => (sysD g a k x o1 j1)) F (z_sysW (X := sysD g a k x o1 j1) (Y := []) (st := []) F ((zEnvL_ok er D g dg ec fs fv qa sw sb sn xs)) E (fun sz => c_L_isFailed l hl9 D g er dg ec fs fv qa sw sb sn xs a k x o1 j1 (nI m1) (hm8) sz) (vx_cwSW 2 F.1.2.2.2.2 gL_thrown_L_isFailed rfl rfl rfl (by decide +kernel) ⟨Nat.le_of_ble_eq_true rfl, Nat.le_of_ble_eq_true rfl⟩) (List.append_nil _).symm [] rfl rfl (by decide) rfl rfl (Nat.le_of_ble_eq_true rfl) dL_thrown_537 ⟨by dsimp only; omega, by dsimp only; omega⟩) (List.append_nil _).symm (fun _ => rfl) (fun _ => List.append_nil _) (fun r537 _ hw537 => ?_)
                                                                  refine z_top hw537 ?_
                                                                  refine z_top (y := 0) ((zIfZ hom).trans (if_pos hbo)) ?_
                                                                  refine z_iconst (v := 1) F dL_thrown_540 (by decide) ?_
                                                                  refine z_icmp_ne (tgt := 574) F dL_thrown_541 (by decide) (fun c91 => ?_) (fun c91 => ?_)
                                                                  · refine z_iload F 0 dL_thrown_574 rfl ?_
                                                                    refine z_bipush (v := 99) F dL_thrown_576 (by decide) ?_
                                                                    refine z_icmp_ge (tgt := 611) F dL_thrown_578 (by decide) (fun c92 => ?_) (fun c92 => ?_)
                                                                    · refine z_loc (lv' := [(0, .ref (a 0)), (1, .long r1), (3, .int (nI (lMc (kL k)))), (4, .int (nI (kC k))), (5, .int 1), (6, .int (nI m1)), (7, .int (nI q1))]) [2, 3, 4, 5, 6, 7, 1] rfl ?_
                                                                      refine z_wide (k := 1600 + 40 * m1 + 12) (n := 118700 + 240 * m1 + 72) (by first | exact Nat.le_of_ble_eq_true rfl | omega) (by first | exact Nat.le_of_ble_eq_true rfl | omega) ?_
                                                                      exact L611
                                                                    · have hcg := c92
                                                                      refine z_iload F 6 dL_thrown_581 rfl ?_
                                                                      refine z_if_eq (tgt := 608) F dL_thrown_583 (by decide) (fun c93 => ?_) (fun c93 => ?_)
                                                                      · exact absurd c93 (by decide)
                                                                      · refine z_aload_n F 2 dL_thrown_586 rfl rfl ?_
                                                                        refine z_iload F 7 dL_thrown_587 rfl ?_
                                                                        refine z_iload F 1 dL_thrown_589 rfl ?_
                                                                        refine z_iload F 0 dL_thrown_591 rfl ?_
                                                                        refine z_iconst (v := 1) F dL_thrown_593 (by decide) ?_
                                                                        refine z_iadd F dL_thrown_594 ?_
                                                                        refine z_sysi (wf := fun k595 => (sysD g a k595 x o1 j1)) F (z_sysW (X := sysD g a k x o1 j1) (Y := []) (st := []) F ((zEnvL_ok er D g dg ec fs fv qa sw sb sn xs)) E (fun sz => c_L_addDebt l hl9 D g er dg ec fs fv qa sw sb sn xs a k x o1 j1 (nI m1) (nI q1) ((99 - (f_debit (lAm (kL k)) (z_n (nI m1)))) + 1) (hm8) (hn) (hc9) sz) (vx_cwSW 4 F.1.2.2.2.2 gL_thrown_L_addDebt rfl rfl rfl (by decide +kernel) ⟨Nat.le_of_ble_eq_true rfl, Nat.le_of_ble_eq_true rfl⟩) (List.append_nil _).symm [] rfl rfl (by decide) rfl rfl (Nat.le_of_ble_eq_true rfl) dL_thrown_595 ⟨by dsimp only; omega, by dsimp only; omega⟩) (List.append_nil _).symm (fun _ => rfl) (fun _ => List.append_nil _) (fun r595 k595 hw595 => ?_)
                                                                        obtain ⟨e1, e2⟩ := z_ansN hw595 (c := 4) (t_db4 (t_pa0 (t_pr0 hh1 hhq nmq) (z_ad hd9.1 hd9.2 hcg).1) hbo (by rw [hli]; exact (z_ad hd9.1 hd9.2 hcg).2)) (by decide)
                                                                        have e2 := e2.symm
                                                                        subst e2
                                                                        refine z_top (y := -1004) e1 ?_
                                                                        refine z_sipush (v := (-1004)) F dL_thrown_598 (by decide) ?_
                                                                        refine z_icmp_ne (tgt := 608) F dL_thrown_601 (by decide) (fun c94 => ?_) (fun c94 => ?_)
                                                                        · exact absurd (by decide) c94
                                                                        · refine z_iconst (v := 1) F dL_thrown_604 (by decide) ?_
                                                                          refine z_goto (tgt := 609) F dL_thrown_605 (by decide) ?_
                                                                          refine z_istore (lv' := [(5, .int 1), (8, .int (99 - (f_debit (lAm (kL k)) (z_n (nI m1))))), (7, .int (nI q1)), (0, .ref (a 0)), (1, .long r1), (3, .int (nI (lMc (kL k)))), (4, .int (nI (kC k))), (6, .int (nI m1))]) F dL_thrown_609 (by decide) rfl ?_
                                                                          refine z_loc (lv' := [(0, .ref (a 0)), (1, .long r1), (3, .int (nI (lMc (kL k)))), (4, .int (nI (kC k))), (5, .int 1), (6, .int (nI m1)), (7, .int (nI q1))]) [3, 4, 5, 6, 0, 7, 2] rfl ?_
                                                                          refine z_wide (k := 1600 + 40 * m1 + 12) (n := 118700 + 240 * m1 + 72) (by first | exact Nat.le_of_ble_eq_true rfl | omega) (by first | exact Nat.le_of_ble_eq_true rfl | omega) ?_
                                                                          exact L611
                                                                  · exact absurd c91 (by decide)
                                                                have L475 : zW p l e { frames := 10, cells := 3800, slots := 260000, locals := 223 } s m args below meth c 10 D A Q (1600 + 40 * m1 + 6) (118700 + 240 * m1 + 36) (sysD g a k x o1 j1) [(0, .ref (a 0)), (1, .long r1), (3, .int (nI (lMc (kL k)))), (4, .int (nI (kC k))), (5, .int 1), (6, .int (nI m1))] [] 475 := by
                                                                  refine z_aload_n F 0 dL_thrown_475 rfl rfl ?_
                                                                  refine z_iload F 5 dL_thrown_476 rfl ?_
                                                                  refine z_sysi (wf := fun _ => (sysD g a k x o1 j1)) F (z_sysW (X := sysD g a k x o1 j1) (Y := []) (st := []) F ((zEnvL_ok er D g dg ec fs fv qa sw sb sn xs)) E (fun sz => c_L_lossIf l hl9 D g er dg ec fs fv qa sw sb sn xs a k x o1 j1 (nI m1) (hm8) sz) (vx_cwSW 2 F.1.2.2.2.2 gL_thrown_L_lossIf rfl rfl rfl (by decide +kernel) ⟨Nat.le_of_ble_eq_true rfl, Nat.le_of_ble_eq_true rfl⟩) (List.append_nil _).symm [] rfl rfl (by decide) rfl rfl (Nat.le_of_ble_eq_true rfl) dL_thrown_478 ⟨by dsimp only; omega, by dsimp only; omega⟩) (List.append_nil _).symm (fun _ => rfl) (fun _ => List.append_nil _) (fun r478 _ hw478 => ?_)
                                                                  refine z_top hw478 ?_
                                                                  refine z_sipush (v := (-1002)) F dL_thrown_481 (by decide) ?_
                                                                  refine z_icmp_ne (tgt := 511) F dL_thrown_484 (by decide) (fun c95 => ?_) (fun c95 => ?_)
                                                                  · refine z_wide (k := 1600 + 40 * m1 + 8) (n := 118700 + 240 * m1 + 48) (by first | exact Nat.le_of_ble_eq_true rfl | omega) (by first | exact Nat.le_of_ble_eq_true rfl | omega) ?_
                                                                    exact L511
                                                                  · have hcl := c95
                                                                    refine z_iload F 4 dL_thrown_487 rfl ?_
                                                                    refine z_if_eq (tgt := 508) F dL_thrown_489 (by decide) (fun c96 => ?_) (fun c96 => ?_)
                                                                    · exact absurd c96 (by decide)
                                                                    · refine z_aload_n F 0 dL_thrown_492 rfl rfl ?_
                                                                      refine z_iload F 5 dL_thrown_493 rfl ?_
                                                                      refine z_sysi (wf := fun u495 => (sysD g a u495.1 x o1 u495.2)) F (z_sysW (X := sysD g a k x o1 j1) (Y := []) (st := []) F ((zEnvL_ok er D g dg ec fs fv qa sw sb sn xs)) E (fun sz => c_L_fail l hl9 D g er dg ec fs fv qa sw sb sn xs a k x o1 j1 (nI m1) (hm8) (hn) (hc9) sz) (vx_cwSW 2 F.1.2.2.2.2 gL_thrown_L_fail rfl rfl rfl (by decide +kernel) ⟨Nat.le_of_ble_eq_true rfl, Nat.le_of_ble_eq_true rfl⟩) (List.append_nil _).symm [] rfl rfl (by decide) rfl rfl (Nat.le_of_ble_eq_true rfl) dL_thrown_495 ⟨by dsimp only; omega, by dsimp only; omega⟩) (List.append_nil _).symm (fun _ => rfl) (fun _ => List.append_nil _) (fun r495 u495 hw495 => ?_)
                                                                      obtain ⟨k495, j495⟩ := u495
                                                                      try dsimp only at hw495
                                                                      refine z_ws (ws' := (sysD g a k495 x o1 j495)) rfl ?_
                                                                      obtain ⟨e1, e2⟩ := z_ansN hw495 (c := 3) (t_df3 hh1 hcl) (by decide)
                                                                      obtain ⟨e2, e3⟩ := Prod.mk.inj e2
                                                                      have e2 := e2.symm
                                                                      subst e2
                                                                      have e3 := e3.symm
                                                                      subst e3
                                                                      refine z_top (y := -1002) e1 ?_
                                                                      refine z_sipush (v := (-1002)) F dL_thrown_498 (by decide) ?_
                                                                      refine z_icmp_ne (tgt := 508) F dL_thrown_501 (by decide) (fun c97 => ?_) (fun c97 => ?_)
                                                                      · exact absurd (by decide) c97
                                                                      · refine z_iconst (v := 1) F dL_thrown_504 (by decide) ?_
                                                                        refine z_goto (tgt := 509) F dL_thrown_505 (by decide) ?_
                                                                        refine z_istore (lv' := [(5, .int 1), (0, .ref (a 0)), (1, .long r1), (3, .int (nI (lMc (kL k)))), (4, .int (nI (kC k))), (6, .int (nI m1))]) F dL_thrown_509 (by decide) rfl ?_
                                                                        refine z_loc (lv' := [(0, .ref (a 0)), (1, .long r1), (3, .int (nI (lMc (kL k)))), (4, .int (nI (kC k))), (5, .int 1), (6, .int (nI m1))]) [1, 2, 3, 4, 0, 5] rfl ?_
                                                                        refine z_wide (k := 1600 + 40 * m1 + 8) (n := 118700 + 240 * m1 + 48) (by first | exact Nat.le_of_ble_eq_true rfl | omega) (by first | exact Nat.le_of_ble_eq_true rfl | omega) ?_
                                                                        exact L511
                                                                have L433 : zW p l e { frames := 10, cells := 3800, slots := 260000, locals := 223 } s m args below meth c 10 D A Q (1600 + 40 * m1 + 3) (118700 + 240 * m1 + 18) (sysD g a k x o1 j1) [(0, .ref (a 0)), (1, .long r1), (3, .int (nI (lMc (kL k)))), (4, .int (nI (kC k))), (5, .int 1), (6, .int (nI m1))] [] 433 := by
                                                                  refine z_aload_n F 0 dL_thrown_433 rfl rfl ?_
                                                                  refine z_iload F 5 dL_thrown_434 rfl ?_
                                                                  refine z_sysi (wf := fun _ => (sysD g a k x o1 j1)) F (z_sysW (X := sysD g a k x o1 j1) (Y := []) (st := []) F ((zEnvL_ok er D g dg ec fs fv qa sw sb sn xs)) E (fun sz => c_L_collateral l hl9 D g er dg ec fs fv qa sw sb sn xs a k x o1 j1 (nI m1) (hm8) sz) (vx_cwSW 2 F.1.2.2.2.2 gL_thrown_L_collateral rfl rfl rfl (by decide +kernel) ⟨Nat.le_of_ble_eq_true rfl, Nat.le_of_ble_eq_true rfl⟩) (List.append_nil _).symm [] rfl rfl (by decide) rfl rfl (Nat.le_of_ble_eq_true rfl) dL_thrown_436 ⟨by dsimp only; omega, by dsimp only; omega⟩) (List.append_nil _).symm (fun _ => rfl) (fun _ => List.append_nil _) (fun r436 _ hw436 => ?_)
                                                                  refine z_top hw436 ?_
                                                                  refine z_top (y := lCa (kL k) (z_n (nI m1))) (zIfZ hom) ?_
                                                                  refine z_if_le (tgt := 475) F dL_thrown_439 (by decide) (fun c98 => ?_) (fun c98 => ?_)
                                                                  · refine z_wide (k := 1600 + 40 * m1 + 6) (n := 118700 + 240 * m1 + 36) (by first | exact Nat.le_of_ble_eq_true rfl | omega) (by first | exact Nat.le_of_ble_eq_true rfl | omega) ?_
                                                                    exact L475
                                                                  · have hcc := c98
                                                                    refine z_iload F 4 dL_thrown_442 rfl ?_
                                                                    refine z_if_eq (tgt := 472) F dL_thrown_444 (by decide) (fun c99 => ?_) (fun c99 => ?_)
                                                                    · exact absurd c99 (by decide)
                                                                    · refine z_aload_n F 0 dL_thrown_447 rfl rfl ?_
                                                                      refine z_iload F 5 dL_thrown_448 rfl ?_
                                                                      refine z_bipush (v := 100) F dL_thrown_450 (by decide) ?_
                                                                      refine z_aload_n F 0 dL_thrown_452 rfl rfl ?_
                                                                      refine z_iload F 5 dL_thrown_453 rfl ?_
                                                                      refine z_sysi (wf := fun _ => (sysD g a k x o1 j1)) F (z_sysW (X := sysD g a k x o1 j1) (Y := []) (st := [.int 100, .int (nI m1), .ref (a 0)]) F ((zEnvL_ok er D g dg ec fs fv qa sw sb sn xs)) E (fun sz => c_L_collateral l hl9 D g er dg ec fs fv qa sw sb sn xs a k x o1 j1 (nI m1) (hm8) sz) (vx_cwSW 2 F.1.2.2.2.2 gL_thrown_L_collateral rfl rfl rfl (by decide +kernel) ⟨Nat.le_of_ble_eq_true rfl, Nat.le_of_ble_eq_true rfl⟩) (List.append_nil _).symm [] rfl rfl (by decide) rfl rfl (Nat.le_of_ble_eq_true rfl) dL_thrown_455 ⟨by dsimp only; omega, by dsimp only; omega⟩) (List.append_nil _).symm (fun _ => rfl) (fun _ => List.append_nil _) (fun r455 _ hw455 => ?_)
                                                                      refine z_top hw455 ?_
                                                                      refine z_top (y := lCa (kL k) (z_n (nI m1))) (zIfZ hom) ?_
                                                                      refine z_isub F dL_thrown_458 ?_
                                                                      refine z_sysi (wf := fun k459 => (sysD g a k459 x o1 j1)) F (z_sysW (X := sysD g a k x o1 j1) (Y := []) (st := []) F ((zEnvL_ok er D g dg ec fs fv qa sw sb sn xs)) E (fun sz => c_L_pledge l hl9 D g er dg ec fs fv qa sw sb sn xs a k x o1 j1 (nI m1) (100 - (lCa (kL k) (z_n (nI m1)))) (hm8) (hn) (hc9) sz) (vx_cwSW 3 F.1.2.2.2.2 gL_thrown_L_pledge rfl rfl rfl (by decide +kernel) ⟨Nat.le_of_ble_eq_true rfl, Nat.le_of_ble_eq_true rfl⟩) (List.append_nil _).symm [] rfl rfl (by decide) rfl rfl (Nat.le_of_ble_eq_true rfl) dL_thrown_459 ⟨by dsimp only; omega, by dsimp only; omega⟩) (List.append_nil _).symm (fun _ => rfl) (fun _ => List.append_nil _) (fun r459 k459 hw459 => ?_)
                                                                      obtain ⟨e1, e2⟩ := z_ansN hw459 (c := 3) (t_pl3 hh1 (z_pl hcc hc9a).1 (z_pl hcc hc9a).2) (by decide)
                                                                      have e2 := e2.symm
                                                                      subst e2
                                                                      refine z_top (y := -1003) e1 ?_
                                                                      refine z_sipush (v := (-1003)) F dL_thrown_462 (by decide) ?_
                                                                      refine z_icmp_ne (tgt := 472) F dL_thrown_465 (by decide) (fun c100 => ?_) (fun c100 => ?_)
                                                                      · exact absurd (by decide) c100
                                                                      · refine z_iconst (v := 1) F dL_thrown_468 (by decide) ?_
                                                                        refine z_goto (tgt := 473) F dL_thrown_469 (by decide) ?_
                                                                        refine z_istore (lv' := [(5, .int 1), (0, .ref (a 0)), (1, .long r1), (3, .int (nI (lMc (kL k)))), (4, .int (nI (kC k))), (6, .int (nI m1))]) F dL_thrown_473 (by decide) rfl ?_
                                                                        refine z_loc (lv' := [(0, .ref (a 0)), (1, .long r1), (3, .int (nI (lMc (kL k)))), (4, .int (nI (kC k))), (5, .int 1), (6, .int (nI m1))]) [1, 2, 3, 4, 0, 5] rfl ?_
                                                                        refine z_wide (k := 1600 + 40 * m1 + 6) (n := 118700 + 240 * m1 + 36) (by first | exact Nat.le_of_ble_eq_true rfl | omega) (by first | exact Nat.le_of_ble_eq_true rfl | omega) ?_
                                                                        exact L475
                                                                refine z_aload_n F 0 dL_thrown_392 rfl rfl ?_
                                                                refine z_iload F 5 dL_thrown_393 rfl ?_
                                                                refine z_sysi (wf := fun _ => (sysD g a k x o1 j1)) F (z_sysW (X := sysD g a k x o1 j1) (Y := []) (st := []) F ((zEnvL_ok er D g dg ec fs fv qa sw sb sn xs)) E (fun sz => c_L_debit l hl9 D g er dg ec fs fv qa sw sb sn xs a k x o1 j1 (nI m1) (hm8) sz) (vx_cwSW 2 F.1.2.2.2.2 gL_thrown_L_debit rfl rfl rfl (by decide +kernel) ⟨Nat.le_of_ble_eq_true rfl, Nat.le_of_ble_eq_true rfl⟩) (List.append_nil _).symm [] rfl rfl (by decide) rfl rfl (Nat.le_of_ble_eq_true rfl) dL_thrown_395 ⟨by dsimp only; omega, by dsimp only; omega⟩) (List.append_nil _).symm (fun _ => rfl) (fun _ => List.append_nil _) (fun r395 _ hw395 => ?_)
                                                                refine z_top hw395 ?_
                                                                refine z_top (y := f_debit (lAm (kL k)) (z_n (nI m1))) (zIfZ hom) ?_
                                                                refine z_if_le (tgt := 433) F dL_thrown_398 (by decide) (fun c101 => ?_) (fun c101 => ?_)
                                                                · refine z_wide (k := 1600 + 40 * m1 + 3) (n := 118700 + 240 * m1 + 18) (by first | exact Nat.le_of_ble_eq_true rfl | omega) (by first | exact Nat.le_of_ble_eq_true rfl | omega) ?_
                                                                  exact L433
                                                                · have hcd := c101
                                                                  refine z_iload F 4 dL_thrown_401 rfl ?_
                                                                  refine z_if_eq (tgt := 430) F dL_thrown_403 (by decide) (fun c102 => ?_) (fun c102 => ?_)
                                                                  · exact absurd c102 (by decide)
                                                                  · refine z_aload_n F 0 dL_thrown_406 rfl rfl ?_
                                                                    refine z_iload F 5 dL_thrown_407 rfl ?_
                                                                    refine z_aload_n F 0 dL_thrown_409 rfl rfl ?_
                                                                    refine z_iload F 5 dL_thrown_410 rfl ?_
                                                                    refine z_sysi (wf := fun _ => (sysD g a k x o1 j1)) F (z_sysW (X := sysD g a k x o1 j1) (Y := []) (st := [.int (nI m1), .ref (a 0)]) F ((zEnvL_ok er D g dg ec fs fv qa sw sb sn xs)) E (fun sz => c_L_debit l hl9 D g er dg ec fs fv qa sw sb sn xs a k x o1 j1 (nI m1) (hm8) sz) (vx_cwSW 2 F.1.2.2.2.2 gL_thrown_L_debit rfl rfl rfl (by decide +kernel) ⟨Nat.le_of_ble_eq_true rfl, Nat.le_of_ble_eq_true rfl⟩) (List.append_nil _).symm [] rfl rfl (by decide) rfl rfl (Nat.le_of_ble_eq_true rfl) dL_thrown_412 ⟨by dsimp only; omega, by dsimp only; omega⟩) (List.append_nil _).symm (fun _ => rfl) (fun _ => List.append_nil _) (fun r412 _ hw412 => ?_)
                                                                    refine z_top hw412 ?_
                                                                    refine z_top (y := f_debit (lAm (kL k)) (z_n (nI m1))) (zIfZ hom) ?_
                                                                    refine z_iconst (v := 1) F dL_thrown_415 (by decide) ?_
                                                                    refine z_isub F dL_thrown_416 ?_
                                                                    refine z_sysi (wf := fun k417 => (sysD g a k417 x o1 j1)) F (z_sysW (X := sysD g a k x o1 j1) (Y := []) (st := []) F ((zEnvL_ok er D g dg ec fs fv qa sw sb sn xs)) E (fun sz => c_L_setLimit l hl9 D g er dg ec fs fv qa sw sb sn xs a k x o1 j1 (nI m1) ((f_debit (lAm (kL k)) (z_n (nI m1))) - 1) (hm8) (hn) (hc9) sz) (vx_cwSW 3 F.1.2.2.2.2 gL_thrown_L_setLimit rfl rfl rfl (by decide +kernel) ⟨Nat.le_of_ble_eq_true rfl, Nat.le_of_ble_eq_true rfl⟩) (List.append_nil _).symm [] rfl rfl (by decide) rfl rfl (Nat.le_of_ble_eq_true rfl) dL_thrown_417 ⟨by dsimp only; omega, by dsimp only; omega⟩) (List.append_nil _).symm (fun _ => rfl) (fun _ => List.append_nil _) (fun r417 k417 hw417 => ?_)
                                                                    obtain ⟨e1, e2⟩ := z_ansN hw417 (c := 3) (t_li3 hh1 (z_dm hcd hd9.2).1 (z_dm hcd hd9.2).2.1 (z_dm hcd hd9.2).2.2) (by decide)
                                                                    have e2 := e2.symm
                                                                    subst e2
                                                                    refine z_top (y := -1003) e1 ?_
                                                                    refine z_sipush (v := (-1003)) F dL_thrown_420 (by decide) ?_
                                                                    refine z_icmp_ne (tgt := 430) F dL_thrown_423 (by decide) (fun c103 => ?_) (fun c103 => ?_)
                                                                    · exact absurd (by decide) c103
                                                                    · refine z_iconst (v := 1) F dL_thrown_426 (by decide) ?_
                                                                      refine z_goto (tgt := 431) F dL_thrown_427 (by decide) ?_
                                                                      refine z_istore (lv' := [(5, .int 1), (0, .ref (a 0)), (1, .long r1), (3, .int (nI (lMc (kL k)))), (4, .int (nI (kC k))), (6, .int (nI m1))]) F dL_thrown_431 (by decide) rfl ?_
                                                                      refine z_loc (lv' := [(0, .ref (a 0)), (1, .long r1), (3, .int (nI (lMc (kL k)))), (4, .int (nI (kC k))), (5, .int 1), (6, .int (nI m1))]) [1, 2, 3, 4, 0, 5] rfl ?_
                                                                      refine z_wide (k := 1600 + 40 * m1 + 3) (n := 118700 + 240 * m1 + 18) (by first | exact Nat.le_of_ble_eq_true rfl | omega) (by first | exact Nat.le_of_ble_eq_true rfl | omega) ?_
                                                                      exact L433
                                                          refine z_loc (lv' := [(0, .ref (a 0)), (1, .long r1), (3, .int (nI (lMc (kL k)))), (4, .int (nI (kC k))), (5, .int 1), (6, .int (nI 0))]) [2, 3, 4, 5, 1, 0] rfl ?_
                                                          refine z_wide (k := 1600 + 40 * 0) (n := 118700 + 240 * 0) (by first | exact Nat.le_of_ble_eq_true rfl | omega) (by first | exact Nat.le_of_ble_eq_true rfl | omega) ?_
                                                          exact L386 _ 0 (Nat.lt_succ_self _) (by omega)
  refine z_iload_n F 1 dL_thrown_16 rfl rfl ?_
  refine z_bipush (v := 8) F dL_thrown_17 (by decide) ?_
  refine z_icmp_lt (tgt := 32) F dL_thrown_19 (by decide) (fun c104 => ?_) (fun c104 => ?_)
  · refine z_loc (lv' := [(0, .ref (a 0)), (1, .long r1), (3, .int (nI (lMc (kL k)))), (4, .int (nI (kC k)))]) [3, 2, 1, 0] rfl ?_
    refine z_wide (k := 1541) (n := 118406) (by first | exact Nat.le_of_ble_eq_true rfl | omega) (by first | exact Nat.le_of_ble_eq_true rfl | omega) ?_
    exact L32
  · have hM8 : lMc (kL k) = 8 := by have : ¬ lMc (kL k) < 8 := fun z => c104 (nI_lt z (by decide)); omega
    refine z_aload_n F 3 dL_thrown_22 rfl rfl ?_
    refine z_sysi (wf := fun k23 => (sysD g a k23 x o1 j1)) F (z_sysW (X := sysD g a k x o1 j1) (Y := []) (st := []) F ((zEnvL_ok er D g dg ec fs fv qa sw sb sn xs)) E (fun sz => c_L_addMember l hl9 D g er dg ec fs fv qa sw sb sn xs a k x o1 j1 (hm8) (hn) (hc9) sz) (vx_cwSW 1 F.1.2.2.2.2 gL_thrown_L_addMember rfl rfl rfl (by decide +kernel) ⟨Nat.le_of_ble_eq_true rfl, Nat.le_of_ble_eq_true rfl⟩) (List.append_nil _).symm [] rfl rfl (by decide) rfl rfl (Nat.le_of_ble_eq_true rfl) dL_thrown_23 ⟨Nat.le_of_ble_eq_true rfl, Nat.le_of_ble_eq_true rfl⟩) (List.append_nil _).symm (fun _ => rfl) (fun _ => List.append_nil _) (fun r23 k23 hw23 => ?_)
    obtain ⟨e1, e2⟩ := z_ansN hw23 (c := 3) (t_jn hM8) (by decide)
    have e2 := e2.symm
    subst e2
    refine z_top (y := -1001) e1 ?_
    refine z_sipush (v := (-1001)) F dL_thrown_26 (by decide) ?_
    refine z_icmp_ne (tgt := 380) F dL_thrown_29 (by decide) (fun c105 => ?_) (fun c105 => ?_)
    · exact absurd (by decide) c105
    · refine z_loc (lv' := [(0, .ref (a 0)), (1, .long r1), (3, .int (nI (lMc (kL k)))), (4, .int (nI (kC k)))]) [3, 2, 1, 0] rfl ?_
      refine z_wide (k := 1541) (n := 118406) (by first | exact Nat.le_of_ble_eq_true rfl | omega) (by first | exact Nat.le_of_ble_eq_true rfl | omega) ?_
      exact L32
