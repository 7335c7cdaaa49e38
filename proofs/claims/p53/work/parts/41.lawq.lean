set_option maxHeartbeats 4000000 in
set_option maxRecDepth 100000 in
theorem c_L_coins (l : Launch) (hl9 : l.stackTraces = false) (D : va_G) (g : Nat → ClassId) (er : Nat → Nat) (dg : Nat → Nat) (ec : Nat → Nat) (fs : Nat → Nat) (fv : Nat → Nat) (qa : Nat) (sw : Nat) (sb : Nat) (sn : Nat) (xs : Nat → Int32) (a : Nat → Nat) (k : zKK) (x : Nat → Int32) (o : zOO) (j : zGG) (v : Int32) (hm : lMc (kL k) ≤ 8) (sz : Nat) : Met l yL_coins wsL_coins { frames := 8, cells := 1, slots := 6, locals := 123 } (zPc D (gT g) (zEnvL er D g dg ec fs fv qa sw sb sn xs) [.ref (a 0), .int v] (sysD g a k x o j) [] sz) (zQi D (sysD g a k x o j) (fun (r : Int32) (_ : Unit) => r = zIf (f_onMember (lMc (kL k)) v) ((lCo (kL k)) (z_n v)) (fun f => -1001)) (fun _ => (sysD g a k x o j)) sz) 1 6 (va_A (sysD g a k x o j) sz) := by
  refine z_metW (y := yL_coins) (hh := [(0, 5, 6, 19)]) (cc := cL_coins) (nL := 3) (rm := { frames := 8, cells := 1, slots := 6, locals := 123 }) (D := D) (tys := gT g) (wr := []) (P0 := zEnvL er D g dg ec fs fv qa sw sb sn xs) (As := [.ref (a 0), .int v]) (ww := (sysD g a k x o j)) (Qc := zQi D (sysD g a k x o j) (fun (r : Int32) (_ : Unit) => r = zIf (f_onMember (lMc (kL k)) v) ((lCo (kL k)) (z_n v)) (fun f => -1001)) (fun _ => (sysD g a k x o j))) (ret := (some .int)) (by decide) rfl (Nat.le_of_ble_eq_true rfl) ?_ sz
  intro p e s m args below meth c A Q hA hQ F E hr hlk htab
  show zW p l e { frames := 8, cells := 1, slots := 6, locals := 123 } s m args below meth c 3 D A Q 0 0 (sysD g a k x o j) [(0, .ref (a 0)), (1, .int v)] [] 0
  refine z_aload_n F 0 dL_coins_0 rfl rfl ?_
  refine z_iload_n F 1 dL_coins_1 rfl rfl ?_
  refine z_callXi0 F (z_runVX (st := []) F (zEnv_ok er) E.1.1.1.1 (fun sz => c_X10_coins l hl9 D g er a (lCo (kL k)) (lMc (kL k)) (lHc (kL k)) (lNe (kL k)) (lLo (kL k)) (kV k) (kE k) (kF k) v (hm) sz) (cwV 1 F.1.2.2.2.2 gL_coins_X10_coins rfl rfl rfl (by decide +kernel) ⟨Nat.le_of_ble_eq_true rfl, Nat.le_of_ble_eq_true rfl⟩) 0 rfl rfl rfl [] [0, 1, 3] rfl rfl (by decide) rfl rfl (Nat.le_of_ble_eq_true rfl) dL_coins_2 ⟨Nat.le_of_ble_eq_true rfl, Nat.le_of_ble_eq_true rfl⟩) ?_ (fun r2 _ hw1 => ?_)
  · intro E9 u9 hx
    obtain ⟨hE9, hne⟩ := hx
    rcases (zc_onMember (lMc (kL k)) v) with hf | hf
    · exact absurd hf hne
    · rw [hf] at hE9
      subst hE9
      refine z_catchE F htab [] ⟨0, 5, 6, 19⟩ [] rfl (z_pass0) (by decide) (by decide) (zWd.at E.2.1.1 1 rfl rfl) (zEnv.ca E.1.1.1.1 3 rfl) (pc' := 6) rfl (fun q => ?_)
      refine z_astore_n (lv' := [(2, .ref q), (0, .ref (a 0)), (1, .int v)]) F dL_coins_6 rfl (by decide) rfl ?_
      refine z_sipush (v := (-1001)) F dL_coins_7 (by decide) ?_
      refine z_wide (k := 1) (n := 6) (Nat.le_of_ble_eq_true rfl) (Nat.le_of_ble_eq_true rfl) ?_
      exact z_iret F hA hQ hlk hr () (zIf1 (h := (fun f => -1001)) hne) (rfl) dL_coins_10
  obtain ⟨hc2, hw1⟩ := hw1
  subst hw1
  refine z_wide (k := 1) (n := 6) (Nat.le_of_ble_eq_true rfl) (Nat.le_of_ble_eq_true rfl) ?_
  exact z_iret F hA hQ hlk hr () (zIf0 hc2) (rfl) dL_coins_5
set_option maxHeartbeats 4000000 in
set_option maxRecDepth 100000 in
theorem c_L_collateral (l : Launch) (hl9 : l.stackTraces = false) (D : va_G) (g : Nat → ClassId) (er : Nat → Nat) (dg : Nat → Nat) (ec : Nat → Nat) (fs : Nat → Nat) (fv : Nat → Nat) (qa : Nat) (sw : Nat) (sb : Nat) (sn : Nat) (xs : Nat → Int32) (a : Nat → Nat) (k : zKK) (x : Nat → Int32) (o : zOO) (j : zGG) (v : Int32) (hm : lMc (kL k) ≤ 8) (sz : Nat) : Met l yL_collateral wsL_collateral { frames := 8, cells := 1, slots := 6, locals := 123 } (zPc D (gT g) (zEnvL er D g dg ec fs fv qa sw sb sn xs) [.ref (a 0), .int v] (sysD g a k x o j) [] sz) (zQi D (sysD g a k x o j) (fun (r : Int32) (_ : Unit) => r = zIf (f_onMember (lMc (kL k)) v) ((lCa (kL k)) (z_n v)) (fun f => -1001)) (fun _ => (sysD g a k x o j)) sz) 1 6 (va_A (sysD g a k x o j) sz) := by
  refine z_metW (y := yL_collateral) (hh := [(0, 5, 6, 19)]) (cc := cL_collateral) (nL := 3) (rm := { frames := 8, cells := 1, slots := 6, locals := 123 }) (D := D) (tys := gT g) (wr := []) (P0 := zEnvL er D g dg ec fs fv qa sw sb sn xs) (As := [.ref (a 0), .int v]) (ww := (sysD g a k x o j)) (Qc := zQi D (sysD g a k x o j) (fun (r : Int32) (_ : Unit) => r = zIf (f_onMember (lMc (kL k)) v) ((lCa (kL k)) (z_n v)) (fun f => -1001)) (fun _ => (sysD g a k x o j))) (ret := (some .int)) (by decide) rfl (Nat.le_of_ble_eq_true rfl) ?_ sz
  intro p e s m args below meth c A Q hA hQ F E hr hlk htab
  show zW p l e { frames := 8, cells := 1, slots := 6, locals := 123 } s m args below meth c 3 D A Q 0 0 (sysD g a k x o j) [(0, .ref (a 0)), (1, .int v)] [] 0
  refine z_aload_n F 0 dL_collateral_0 rfl rfl ?_
  refine z_iload_n F 1 dL_collateral_1 rfl rfl ?_
  refine z_callXi0 F (z_runVX (st := []) F (zEnv_ok er) E.1.1.1.1 (fun sz => c_X10_collateral l hl9 D g er a (lCa (kL k)) (lMc (kL k)) (lHc (kL k)) (lNe (kL k)) (lLo (kL k)) (kV k) (kE k) (kF k) v (hm) sz) (cwV 1 F.1.2.2.2.2 gL_collateral_X10_collateral rfl rfl rfl (by decide +kernel) ⟨Nat.le_of_ble_eq_true rfl, Nat.le_of_ble_eq_true rfl⟩) 0 rfl rfl rfl [] [0, 1, 4] rfl rfl (by decide) rfl rfl (Nat.le_of_ble_eq_true rfl) dL_collateral_2 ⟨Nat.le_of_ble_eq_true rfl, Nat.le_of_ble_eq_true rfl⟩) ?_ (fun r2 _ hw1 => ?_)
  · intro E9 u9 hx
    obtain ⟨hE9, hne⟩ := hx
    rcases (zc_onMember (lMc (kL k)) v) with hf | hf
    · exact absurd hf hne
    · rw [hf] at hE9
      subst hE9
      refine z_catchE F htab [] ⟨0, 5, 6, 19⟩ [] rfl (z_pass0) (by decide) (by decide) (zWd.at E.2.1.1 1 rfl rfl) (zEnv.ca E.1.1.1.1 3 rfl) (pc' := 6) rfl (fun q => ?_)
      refine z_astore_n (lv' := [(2, .ref q), (0, .ref (a 0)), (1, .int v)]) F dL_collateral_6 rfl (by decide) rfl ?_
      refine z_sipush (v := (-1001)) F dL_collateral_7 (by decide) ?_
      refine z_wide (k := 1) (n := 6) (Nat.le_of_ble_eq_true rfl) (Nat.le_of_ble_eq_true rfl) ?_
      exact z_iret F hA hQ hlk hr () (zIf1 (h := (fun f => -1001)) hne) (rfl) dL_collateral_10
  obtain ⟨hc2, hw1⟩ := hw1
  subst hw1
  refine z_wide (k := 1) (n := 6) (Nat.le_of_ble_eq_true rfl) (Nat.le_of_ble_eq_true rfl) ?_
  exact z_iret F hA hQ hlk hr () (zIf0 hc2) (rfl) dL_collateral_5
set_option maxHeartbeats 4000000 in
set_option maxRecDepth 100000 in
theorem c_L_cover (l : Launch) (hl9 : l.stackTraces = false) (D : va_G) (g : Nat → ClassId) (er : Nat → Nat) (dg : Nat → Nat) (ec : Nat → Nat) (fs : Nat → Nat) (fv : Nat → Nat) (qa : Nat) (sw : Nat) (sb : Nat) (sn : Nat) (xs : Nat → Int32) (a : Nat → Nat) (k : zKK) (x : Nat → Int32) (o : zOO) (j : zGG) (v : Int32) (hm : lMc (kL k) ≤ 8) (sz : Nat) : Met l yL_cover wsL_cover { frames := 8, cells := 1, slots := 6, locals := 123 } (zPc D (gT g) (zEnvL er D g dg ec fs fv qa sw sb sn xs) [.ref (a 0), .int v] (sysD g a k x o j) [] sz) (zQi D (sysD g a k x o j) (fun (r : Int32) (_ : Unit) => r = zIf (f_onMember (lMc (kL k)) v) (f_cover (lCa (kL k)) (lHc (kL k)) (z_n v)) (fun f => -1001)) (fun _ => (sysD g a k x o j)) sz) 1 6 (va_A (sysD g a k x o j) sz) := by
  refine z_metW (y := yL_cover) (hh := [(0, 5, 6, 19)]) (cc := cL_cover) (nL := 3) (rm := { frames := 8, cells := 1, slots := 6, locals := 123 }) (D := D) (tys := gT g) (wr := []) (P0 := zEnvL er D g dg ec fs fv qa sw sb sn xs) (As := [.ref (a 0), .int v]) (ww := (sysD g a k x o j)) (Qc := zQi D (sysD g a k x o j) (fun (r : Int32) (_ : Unit) => r = zIf (f_onMember (lMc (kL k)) v) (f_cover (lCa (kL k)) (lHc (kL k)) (z_n v)) (fun f => -1001)) (fun _ => (sysD g a k x o j))) (ret := (some .int)) (by decide) rfl (Nat.le_of_ble_eq_true rfl) ?_ sz
  intro p e s m args below meth c A Q hA hQ F E hr hlk htab
  show zW p l e { frames := 8, cells := 1, slots := 6, locals := 123 } s m args below meth c 3 D A Q 0 0 (sysD g a k x o j) [(0, .ref (a 0)), (1, .int v)] [] 0
  refine z_aload_n F 0 dL_cover_0 rfl rfl ?_
  refine z_iload_n F 1 dL_cover_1 rfl rfl ?_
  refine z_callXi0 F (z_runVX (st := []) F (zEnv_ok er) E.1.1.1.1 (fun sz => c_X10_cover l hl9 D g er a (lCa (kL k)) (lMc (kL k)) (lHc (kL k)) (lNe (kL k)) (lLo (kL k)) (kV k) (kE k) (kF k) v (hm) sz) (cwV 1 F.1.2.2.2.2 gL_cover_X10_cover rfl rfl rfl (by decide +kernel) ⟨Nat.le_of_ble_eq_true rfl, Nat.le_of_ble_eq_true rfl⟩) 0 rfl rfl rfl [] [0, 1, 4] rfl rfl (by decide) rfl rfl (Nat.le_of_ble_eq_true rfl) dL_cover_2 ⟨Nat.le_of_ble_eq_true rfl, Nat.le_of_ble_eq_true rfl⟩) ?_ (fun r2 _ hw1 => ?_)
  · intro E9 u9 hx
    obtain ⟨hE9, hne⟩ := hx
    rcases (zc_onMember (lMc (kL k)) v) with hf | hf
    · exact absurd hf hne
    · rw [hf] at hE9
      subst hE9
      refine z_catchE F htab [] ⟨0, 5, 6, 19⟩ [] rfl (z_pass0) (by decide) (by decide) (zWd.at E.2.1.1 1 rfl rfl) (zEnv.ca E.1.1.1.1 3 rfl) (pc' := 6) rfl (fun q => ?_)
      refine z_astore_n (lv' := [(2, .ref q), (0, .ref (a 0)), (1, .int v)]) F dL_cover_6 rfl (by decide) rfl ?_
      refine z_sipush (v := (-1001)) F dL_cover_7 (by decide) ?_
      refine z_wide (k := 1) (n := 6) (Nat.le_of_ble_eq_true rfl) (Nat.le_of_ble_eq_true rfl) ?_
      exact z_iret F hA hQ hlk hr () (zIf1 (h := (fun f => -1001)) hne) (rfl) dL_cover_10
  obtain ⟨hc2, hw1⟩ := hw1
  subst hw1
  refine z_wide (k := 1) (n := 6) (Nat.le_of_ble_eq_true rfl) (Nat.le_of_ble_eq_true rfl) ?_
  exact z_iret F hA hQ hlk hr () (zIf0 hc2) (rfl) dL_cover_5
set_option maxHeartbeats 4000000 in
set_option maxRecDepth 100000 in
theorem c_L_limit (l : Launch) (hl9 : l.stackTraces = false) (D : va_G) (g : Nat → ClassId) (er : Nat → Nat) (dg : Nat → Nat) (ec : Nat → Nat) (fs : Nat → Nat) (fv : Nat → Nat) (qa : Nat) (sw : Nat) (sb : Nat) (sn : Nat) (xs : Nat → Int32) (a : Nat → Nat) (k : zKK) (x : Nat → Int32) (o : zOO) (j : zGG) (v : Int32) (hm : lMc (kL k) ≤ 8) (sz : Nat) : Met l yL_limit wsL_limit { frames := 8, cells := 1, slots := 6, locals := 123 } (zPc D (gT g) (zEnvL er D g dg ec fs fv qa sw sb sn xs) [.ref (a 0), .int v] (sysD g a k x o j) [] sz) (zQi D (sysD g a k x o j) (fun (r : Int32) (_ : Unit) => r = zIf (f_onMember (lMc (kL k)) v) ((lLi (kL k)) (z_n v)) (fun f => -1001)) (fun _ => (sysD g a k x o j)) sz) 1 6 (va_A (sysD g a k x o j) sz) := by
  refine z_metW (y := yL_limit) (hh := [(0, 5, 6, 19)]) (cc := cL_limit) (nL := 3) (rm := { frames := 8, cells := 1, slots := 6, locals := 123 }) (D := D) (tys := gT g) (wr := []) (P0 := zEnvL er D g dg ec fs fv qa sw sb sn xs) (As := [.ref (a 0), .int v]) (ww := (sysD g a k x o j)) (Qc := zQi D (sysD g a k x o j) (fun (r : Int32) (_ : Unit) => r = zIf (f_onMember (lMc (kL k)) v) ((lLi (kL k)) (z_n v)) (fun f => -1001)) (fun _ => (sysD g a k x o j))) (ret := (some .int)) (by decide) rfl (Nat.le_of_ble_eq_true rfl) ?_ sz
  intro p e s m args below meth c A Q hA hQ F E hr hlk htab
  show zW p l e { frames := 8, cells := 1, slots := 6, locals := 123 } s m args below meth c 3 D A Q 0 0 (sysD g a k x o j) [(0, .ref (a 0)), (1, .int v)] [] 0
  refine z_aload_n F 0 dL_limit_0 rfl rfl ?_
  refine z_iload_n F 1 dL_limit_1 rfl rfl ?_
  refine z_callXi0 F (z_runVX (st := []) F (zEnv_ok er) E.1.1.1.1 (fun sz => c_X10_limit l hl9 D g er a (lLi (kL k)) (lMc (kL k)) (lHc (kL k)) (lNe (kL k)) (lLo (kL k)) (kV k) (kE k) (kF k) v (hm) sz) (cwV 1 F.1.2.2.2.2 gL_limit_X10_limit rfl rfl rfl (by decide +kernel) ⟨Nat.le_of_ble_eq_true rfl, Nat.le_of_ble_eq_true rfl⟩) 0 rfl rfl rfl [] [0, 1, 5] rfl rfl (by decide) rfl rfl (Nat.le_of_ble_eq_true rfl) dL_limit_2 ⟨Nat.le_of_ble_eq_true rfl, Nat.le_of_ble_eq_true rfl⟩) ?_ (fun r2 _ hw1 => ?_)
  · intro E9 u9 hx
    obtain ⟨hE9, hne⟩ := hx
    rcases (zc_onMember (lMc (kL k)) v) with hf | hf
    · exact absurd hf hne
    · rw [hf] at hE9
      subst hE9
      refine z_catchE F htab [] ⟨0, 5, 6, 19⟩ [] rfl (z_pass0) (by decide) (by decide) (zWd.at E.2.1.1 1 rfl rfl) (zEnv.ca E.1.1.1.1 3 rfl) (pc' := 6) rfl (fun q => ?_)
      refine z_astore_n (lv' := [(2, .ref q), (0, .ref (a 0)), (1, .int v)]) F dL_limit_6 rfl (by decide) rfl ?_
      refine z_sipush (v := (-1001)) F dL_limit_7 (by decide) ?_
      refine z_wide (k := 1) (n := 6) (Nat.le_of_ble_eq_true rfl) (Nat.le_of_ble_eq_true rfl) ?_
      exact z_iret F hA hQ hlk hr () (zIf1 (h := (fun f => -1001)) hne) (rfl) dL_limit_10
  obtain ⟨hc2, hw1⟩ := hw1
  subst hw1
  refine z_wide (k := 1) (n := 6) (Nat.le_of_ble_eq_true rfl) (Nat.le_of_ble_eq_true rfl) ?_
  exact z_iret F hA hQ hlk hr () (zIf0 hc2) (rfl) dL_limit_5
set_option maxHeartbeats 4000000 in
set_option maxRecDepth 100000 in
theorem c_L_debit (l : Launch) (hl9 : l.stackTraces = false) (D : va_G) (g : Nat → ClassId) (er : Nat → Nat) (dg : Nat → Nat) (ec : Nat → Nat) (fs : Nat → Nat) (fv : Nat → Nat) (qa : Nat) (sw : Nat) (sb : Nat) (sn : Nat) (xs : Nat → Int32) (a : Nat → Nat) (k : zKK) (x : Nat → Int32) (o : zOO) (j : zGG) (v : Int32) (hm : lMc (kL k) ≤ 8) (sz : Nat) : Met l yL_debit wsL_debit { frames := 8, cells := 1, slots := 6, locals := 123 } (zPc D (gT g) (zEnvL er D g dg ec fs fv qa sw sb sn xs) [.ref (a 0), .int v] (sysD g a k x o j) [] sz) (zQi D (sysD g a k x o j) (fun (r : Int32) (_ : Unit) => r = zIf (f_onMember (lMc (kL k)) v) (f_debit (lAm (kL k)) (z_n v)) (fun f => -1001)) (fun _ => (sysD g a k x o j)) sz) 1 6 (va_A (sysD g a k x o j) sz) := by
  refine z_metW (y := yL_debit) (hh := [(0, 5, 6, 19)]) (cc := cL_debit) (nL := 3) (rm := { frames := 8, cells := 1, slots := 6, locals := 123 }) (D := D) (tys := gT g) (wr := []) (P0 := zEnvL er D g dg ec fs fv qa sw sb sn xs) (As := [.ref (a 0), .int v]) (ww := (sysD g a k x o j)) (Qc := zQi D (sysD g a k x o j) (fun (r : Int32) (_ : Unit) => r = zIf (f_onMember (lMc (kL k)) v) (f_debit (lAm (kL k)) (z_n v)) (fun f => -1001)) (fun _ => (sysD g a k x o j))) (ret := (some .int)) (by decide) rfl (Nat.le_of_ble_eq_true rfl) ?_ sz
  intro p e s m args below meth c A Q hA hQ F E hr hlk htab
  show zW p l e { frames := 8, cells := 1, slots := 6, locals := 123 } s m args below meth c 3 D A Q 0 0 (sysD g a k x o j) [(0, .ref (a 0)), (1, .int v)] [] 0
  refine z_aload_n F 0 dL_debit_0 rfl rfl ?_
  refine z_iload_n F 1 dL_debit_1 rfl rfl ?_
  refine z_callXi0 F (z_runVX (st := []) F (zEnv_ok er) E.1.1.1.1 (fun sz => c_X10_debit l hl9 D g er a (lAm (kL k)) (lMc (kL k)) (lHc (kL k)) (lNe (kL k)) (lLo (kL k)) (kV k) (kE k) (kF k) v (hm) sz) (cwV 1 F.1.2.2.2.2 gL_debit_X10_debit rfl rfl rfl (by decide +kernel) ⟨Nat.le_of_ble_eq_true rfl, Nat.le_of_ble_eq_true rfl⟩) 0 rfl rfl rfl [] [0, 1, 2] rfl rfl (by decide) rfl rfl (Nat.le_of_ble_eq_true rfl) dL_debit_2 ⟨Nat.le_of_ble_eq_true rfl, Nat.le_of_ble_eq_true rfl⟩) ?_ (fun r2 _ hw1 => ?_)
  · intro E9 u9 hx
    obtain ⟨hE9, hne⟩ := hx
    rcases (zc_onMember (lMc (kL k)) v) with hf | hf
    · exact absurd hf hne
    · rw [hf] at hE9
      subst hE9
      refine z_catchE F htab [] ⟨0, 5, 6, 19⟩ [] rfl (z_pass0) (by decide) (by decide) (zWd.at E.2.1.1 1 rfl rfl) (zEnv.ca E.1.1.1.1 3 rfl) (pc' := 6) rfl (fun q => ?_)
      refine z_astore_n (lv' := [(2, .ref q), (0, .ref (a 0)), (1, .int v)]) F dL_debit_6 rfl (by decide) rfl ?_
      refine z_sipush (v := (-1001)) F dL_debit_7 (by decide) ?_
      refine z_wide (k := 1) (n := 6) (Nat.le_of_ble_eq_true rfl) (Nat.le_of_ble_eq_true rfl) ?_
      exact z_iret F hA hQ hlk hr () (zIf1 (h := (fun f => -1001)) hne) (rfl) dL_debit_10
  obtain ⟨hc2, hw1⟩ := hw1
  subst hw1
  refine z_wide (k := 1) (n := 6) (Nat.le_of_ble_eq_true rfl) (Nat.le_of_ble_eq_true rfl) ?_
  exact z_iret F hA hQ hlk hr () (zIf0 hc2) (rfl) dL_debit_5
set_option maxHeartbeats 4000000 in
set_option maxRecDepth 100000 in
theorem c_L_credit (l : Launch) (hl9 : l.stackTraces = false) (D : va_G) (g : Nat → ClassId) (er : Nat → Nat) (dg : Nat → Nat) (ec : Nat → Nat) (fs : Nat → Nat) (fv : Nat → Nat) (qa : Nat) (sw : Nat) (sb : Nat) (sn : Nat) (xs : Nat → Int32) (a : Nat → Nat) (k : zKK) (x : Nat → Int32) (o : zOO) (j : zGG) (v : Int32) (hm : lMc (kL k) ≤ 8) (sz : Nat) : Met l yL_credit wsL_credit { frames := 8, cells := 1, slots := 6, locals := 123 } (zPc D (gT g) (zEnvL er D g dg ec fs fv qa sw sb sn xs) [.ref (a 0), .int v] (sysD g a k x o j) [] sz) (zQi D (sysD g a k x o j) (fun (r : Int32) (_ : Unit) => r = zIf (f_onMember (lMc (kL k)) v) (f_credit (lAm (kL k)) (z_n v)) (fun f => -1001)) (fun _ => (sysD g a k x o j)) sz) 1 6 (va_A (sysD g a k x o j) sz) := by
  refine z_metW (y := yL_credit) (hh := [(0, 5, 6, 19)]) (cc := cL_credit) (nL := 3) (rm := { frames := 8, cells := 1, slots := 6, locals := 123 }) (D := D) (tys := gT g) (wr := []) (P0 := zEnvL er D g dg ec fs fv qa sw sb sn xs) (As := [.ref (a 0), .int v]) (ww := (sysD g a k x o j)) (Qc := zQi D (sysD g a k x o j) (fun (r : Int32) (_ : Unit) => r = zIf (f_onMember (lMc (kL k)) v) (f_credit (lAm (kL k)) (z_n v)) (fun f => -1001)) (fun _ => (sysD g a k x o j))) (ret := (some .int)) (by decide) rfl (Nat.le_of_ble_eq_true rfl) ?_ sz
  intro p e s m args below meth c A Q hA hQ F E hr hlk htab
  show zW p l e { frames := 8, cells := 1, slots := 6, locals := 123 } s m args below meth c 3 D A Q 0 0 (sysD g a k x o j) [(0, .ref (a 0)), (1, .int v)] [] 0
  refine z_aload_n F 0 dL_credit_0 rfl rfl ?_
  refine z_iload_n F 1 dL_credit_1 rfl rfl ?_
  refine z_callXi0 F (z_runVX (st := []) F (zEnv_ok er) E.1.1.1.1 (fun sz => c_X10_credit l hl9 D g er a (lAm (kL k)) (lMc (kL k)) (lHc (kL k)) (lNe (kL k)) (lLo (kL k)) (kV k) (kE k) (kF k) v (hm) sz) (cwV 1 F.1.2.2.2.2 gL_credit_X10_credit rfl rfl rfl (by decide +kernel) ⟨Nat.le_of_ble_eq_true rfl, Nat.le_of_ble_eq_true rfl⟩) 0 rfl rfl rfl [] [0, 1, 2] rfl rfl (by decide) rfl rfl (Nat.le_of_ble_eq_true rfl) dL_credit_2 ⟨Nat.le_of_ble_eq_true rfl, Nat.le_of_ble_eq_true rfl⟩) ?_ (fun r2 _ hw1 => ?_)
  · intro E9 u9 hx
    obtain ⟨hE9, hne⟩ := hx
    rcases (zc_onMember (lMc (kL k)) v) with hf | hf
    · exact absurd hf hne
    · rw [hf] at hE9
      subst hE9
      refine z_catchE F htab [] ⟨0, 5, 6, 19⟩ [] rfl (z_pass0) (by decide) (by decide) (zWd.at E.2.1.1 1 rfl rfl) (zEnv.ca E.1.1.1.1 3 rfl) (pc' := 6) rfl (fun q => ?_)
      refine z_astore_n (lv' := [(2, .ref q), (0, .ref (a 0)), (1, .int v)]) F dL_credit_6 rfl (by decide) rfl ?_
      refine z_sipush (v := (-1001)) F dL_credit_7 (by decide) ?_
      refine z_wide (k := 1) (n := 6) (Nat.le_of_ble_eq_true rfl) (Nat.le_of_ble_eq_true rfl) ?_
      exact z_iret F hA hQ hlk hr () (zIf1 (h := (fun f => -1001)) hne) (rfl) dL_credit_10
  obtain ⟨hc2, hw1⟩ := hw1
  subst hw1
  refine z_wide (k := 1) (n := 6) (Nat.le_of_ble_eq_true rfl) (Nat.le_of_ble_eq_true rfl) ?_
  exact z_iret F hA hQ hlk hr () (zIf0 hc2) (rfl) dL_credit_5
set_option maxHeartbeats 4000000 in
set_option maxRecDepth 100000 in
theorem c_L_position (l : Launch) (hl9 : l.stackTraces = false) (D : va_G) (g : Nat → ClassId) (er : Nat → Nat) (dg : Nat → Nat) (ec : Nat → Nat) (fs : Nat → Nat) (fv : Nat → Nat) (qa : Nat) (sw : Nat) (sb : Nat) (sn : Nat) (xs : Nat → Int32) (a : Nat → Nat) (k : zKK) (x : Nat → Int32) (o : zOO) (j : zGG) (v : Int32) (hm : lMc (kL k) ≤ 8) (sz : Nat) : Met l yL_position wsL_position { frames := 8, cells := 1, slots := 6, locals := 123 } (zPc D (gT g) (zEnvL er D g dg ec fs fv qa sw sb sn xs) [.ref (a 0), .int v] (sysD g a k x o j) [] sz) (zQi D (sysD g a k x o j) (fun (r : Int32) (_ : Unit) => r = zIf (f_onMember (lMc (kL k)) v) (f_pos (lAm (kL k)) (z_n v)) (fun f => -1001)) (fun _ => (sysD g a k x o j)) sz) 1 6 (va_A (sysD g a k x o j) sz) := by
  refine z_metW (y := yL_position) (hh := [(0, 5, 6, 19)]) (cc := cL_position) (nL := 3) (rm := { frames := 8, cells := 1, slots := 6, locals := 123 }) (D := D) (tys := gT g) (wr := []) (P0 := zEnvL er D g dg ec fs fv qa sw sb sn xs) (As := [.ref (a 0), .int v]) (ww := (sysD g a k x o j)) (Qc := zQi D (sysD g a k x o j) (fun (r : Int32) (_ : Unit) => r = zIf (f_onMember (lMc (kL k)) v) (f_pos (lAm (kL k)) (z_n v)) (fun f => -1001)) (fun _ => (sysD g a k x o j))) (ret := (some .int)) (by decide) rfl (Nat.le_of_ble_eq_true rfl) ?_ sz
  intro p e s m args below meth c A Q hA hQ F E hr hlk htab
  show zW p l e { frames := 8, cells := 1, slots := 6, locals := 123 } s m args below meth c 3 D A Q 0 0 (sysD g a k x o j) [(0, .ref (a 0)), (1, .int v)] [] 0
  refine z_aload_n F 0 dL_position_0 rfl rfl ?_
  refine z_iload_n F 1 dL_position_1 rfl rfl ?_
  refine z_callXi0 F (z_runVX (st := []) F (zEnv_ok er) E.1.1.1.1 (fun sz => c_X10_position l hl9 D g er a (lAm (kL k)) (lMc (kL k)) (lHc (kL k)) (lNe (kL k)) (lLo (kL k)) (kV k) (kE k) (kF k) v (hm) sz) (cwV 1 F.1.2.2.2.2 gL_position_X10_position rfl rfl rfl (by decide +kernel) ⟨Nat.le_of_ble_eq_true rfl, Nat.le_of_ble_eq_true rfl⟩) 0 rfl rfl rfl [] [0, 1, 2] rfl rfl (by decide) rfl rfl (Nat.le_of_ble_eq_true rfl) dL_position_2 ⟨Nat.le_of_ble_eq_true rfl, Nat.le_of_ble_eq_true rfl⟩) ?_ (fun r2 _ hw1 => ?_)
  · intro E9 u9 hx
    obtain ⟨hE9, hne⟩ := hx
    rcases (zc_onMember (lMc (kL k)) v) with hf | hf
    · exact absurd hf hne
    · rw [hf] at hE9
      subst hE9
      refine z_catchE F htab [] ⟨0, 5, 6, 19⟩ [] rfl (z_pass0) (by decide) (by decide) (zWd.at E.2.1.1 1 rfl rfl) (zEnv.ca E.1.1.1.1 3 rfl) (pc' := 6) rfl (fun q => ?_)
      refine z_astore_n (lv' := [(2, .ref q), (0, .ref (a 0)), (1, .int v)]) F dL_position_6 rfl (by decide) rfl ?_
      refine z_sipush (v := (-1001)) F dL_position_7 (by decide) ?_
      refine z_wide (k := 1) (n := 6) (Nat.le_of_ble_eq_true rfl) (Nat.le_of_ble_eq_true rfl) ?_
      exact z_iret F hA hQ hlk hr () (zIf1 (h := (fun f => -1001)) hne) (rfl) dL_position_10
  obtain ⟨hc2, hw1⟩ := hw1
  subst hw1
  refine z_wide (k := 1) (n := 6) (Nat.le_of_ble_eq_true rfl) (Nat.le_of_ble_eq_true rfl) ?_
  exact z_iret F hA hQ hlk hr () (zIf0 hc2) (rfl) dL_position_5
set_option maxHeartbeats 4000000 in
set_option maxRecDepth 100000 in
theorem c_L_byAccount (l : Launch) (hl9 : l.stackTraces = false) (D : va_G) (g : Nat → ClassId) (er : Nat → Nat) (dg : Nat → Nat) (ec : Nat → Nat) (fs : Nat → Nat) (fv : Nat → Nat) (qa : Nat) (sw : Nat) (sb : Nat) (sn : Nat) (xs : Nat → Int32) (a : Nat → Nat) (k : zKK) (x : Nat → Int32) (o : zOO) (j : zGG) (v : Int32) (hm : lMc (kL k) ≤ 8) (sz : Nat) : Met l yL_byAccount wsL_byAccount { frames := 8, cells := 1, slots := 6, locals := 123 } (zPc D (gT g) (zEnvL er D g dg ec fs fv qa sw sb sn xs) [.ref (a 0), .int v] (sysD g a k x o j) [] sz) (zQi D (sysD g a k x o j) (fun (r : Int32) (_ : Unit) => r = zIf (f_onMember (lMc (kL k)) v) ((lAc (kL k)) (z_n v)) (fun f => -1001)) (fun _ => (sysD g a k x o j)) sz) 1 6 (va_A (sysD g a k x o j) sz) := by
  refine z_metW (y := yL_byAccount) (hh := [(0, 5, 6, 19)]) (cc := cL_byAccount) (nL := 3) (rm := { frames := 8, cells := 1, slots := 6, locals := 123 }) (D := D) (tys := gT g) (wr := []) (P0 := zEnvL er D g dg ec fs fv qa sw sb sn xs) (As := [.ref (a 0), .int v]) (ww := (sysD g a k x o j)) (Qc := zQi D (sysD g a k x o j) (fun (r : Int32) (_ : Unit) => r = zIf (f_onMember (lMc (kL k)) v) ((lAc (kL k)) (z_n v)) (fun f => -1001)) (fun _ => (sysD g a k x o j))) (ret := (some .int)) (by decide) rfl (Nat.le_of_ble_eq_true rfl) ?_ sz
  intro p e s m args below meth c A Q hA hQ F E hr hlk htab
  show zW p l e { frames := 8, cells := 1, slots := 6, locals := 123 } s m args below meth c 3 D A Q 0 0 (sysD g a k x o j) [(0, .ref (a 0)), (1, .int v)] [] 0
  refine z_aload_n F 0 dL_byAccount_0 rfl rfl ?_
  refine z_iload_n F 1 dL_byAccount_1 rfl rfl ?_
  refine z_callXi0 F (z_runVX (st := []) F (zEnv_ok er) E.1.1.1.1 (fun sz => c_X10_positionByAccount l hl9 D g er a (lAc (kL k)) (lMc (kL k)) (lHc (kL k)) (lNe (kL k)) (lLo (kL k)) (kV k) (kE k) (kF k) v (hm) sz) (cwV 1 F.1.2.2.2.2 gL_byAccount_X10_positionByAccount rfl rfl rfl (by decide +kernel) ⟨Nat.le_of_ble_eq_true rfl, Nat.le_of_ble_eq_true rfl⟩) 0 rfl rfl rfl [] [0, 1, 6] rfl rfl (by decide) rfl rfl (Nat.le_of_ble_eq_true rfl) dL_byAccount_2 ⟨Nat.le_of_ble_eq_true rfl, Nat.le_of_ble_eq_true rfl⟩) ?_ (fun r2 _ hw1 => ?_)
  · intro E9 u9 hx
    obtain ⟨hE9, hne⟩ := hx
    rcases (zc_onMember (lMc (kL k)) v) with hf | hf
    · exact absurd hf hne
    · rw [hf] at hE9
      subst hE9
      refine z_catchE F htab [] ⟨0, 5, 6, 19⟩ [] rfl (z_pass0) (by decide) (by decide) (zWd.at E.2.1.1 1 rfl rfl) (zEnv.ca E.1.1.1.1 3 rfl) (pc' := 6) rfl (fun q => ?_)
      refine z_astore_n (lv' := [(2, .ref q), (0, .ref (a 0)), (1, .int v)]) F dL_byAccount_6 rfl (by decide) rfl ?_
      refine z_sipush (v := (-1001)) F dL_byAccount_7 (by decide) ?_
      refine z_wide (k := 1) (n := 6) (Nat.le_of_ble_eq_true rfl) (Nat.le_of_ble_eq_true rfl) ?_
      exact z_iret F hA hQ hlk hr () (zIf1 (h := (fun f => -1001)) hne) (rfl) dL_byAccount_10
  obtain ⟨hc2, hw1⟩ := hw1
  subst hw1
  refine z_wide (k := 1) (n := 6) (Nat.le_of_ble_eq_true rfl) (Nat.le_of_ble_eq_true rfl) ?_
  exact z_iret F hA hQ hlk hr () (zIf0 hc2) (rfl) dL_byAccount_5
set_option maxHeartbeats 4000000 in
set_option maxRecDepth 100000 in
theorem c_L_isFailed (l : Launch) (hl9 : l.stackTraces = false) (D : va_G) (g : Nat → ClassId) (er : Nat → Nat) (dg : Nat → Nat) (ec : Nat → Nat) (fs : Nat → Nat) (fv : Nat → Nat) (qa : Nat) (sw : Nat) (sb : Nat) (sn : Nat) (xs : Nat → Int32) (a : Nat → Nat) (k : zKK) (x : Nat → Int32) (o : zOO) (j : zGG) (v : Int32) (hm : lMc (kL k) ≤ 8) (sz : Nat) : Met l yL_isFailed wsL_isFailed { frames := 8, cells := 1, slots := 6, locals := 123 } (zPc D (gT g) (zEnvL er D g dg ec fs fv qa sw sb sn xs) [.ref (a 0), .int v] (sysD g a k x o j) [] sz) (zQi D (sysD g a k x o j) (fun (r : Int32) (_ : Unit) => r = zIf (f_onMember (lMc (kL k)) v) (if zBo (lBo (kL k)) (z_n v) = 0 then 0 else 1) (fun f => -1001)) (fun _ => (sysD g a k x o j)) sz) 1 6 (va_A (sysD g a k x o j) sz) := by
  refine z_metW (y := yL_isFailed) (hh := [(0, 13, 14, 19)]) (cc := cL_isFailed) (nL := 3) (rm := { frames := 8, cells := 1, slots := 6, locals := 123 }) (D := D) (tys := gT g) (wr := []) (P0 := zEnvL er D g dg ec fs fv qa sw sb sn xs) (As := [.ref (a 0), .int v]) (ww := (sysD g a k x o j)) (Qc := zQi D (sysD g a k x o j) (fun (r : Int32) (_ : Unit) => r = zIf (f_onMember (lMc (kL k)) v) (if zBo (lBo (kL k)) (z_n v) = 0 then 0 else 1) (fun f => -1001)) (fun _ => (sysD g a k x o j))) (ret := (some .int)) (by decide) rfl (Nat.le_of_ble_eq_true rfl) ?_ sz
  intro p e s m args below meth c A Q hA hQ F E hr hlk htab
  show zW p l e { frames := 8, cells := 1, slots := 6, locals := 123 } s m args below meth c 3 D A Q 0 0 (sysD g a k x o j) [(0, .ref (a 0)), (1, .int v)] [] 0
  refine z_aload_n F 0 dL_isFailed_0 rfl rfl ?_
  refine z_iload_n F 1 dL_isFailed_1 rfl rfl ?_
  refine z_callXi0 F (z_runVX (st := []) F (zEnv_ok er) E.1.1.1.1 (fun sz => c_X10_isInDefault l hl9 D g er a (lBo (kL k)) (lMc (kL k)) (lHc (kL k)) (lNe (kL k)) (lLo (kL k)) (kV k) (kE k) (kF k) v (hm) sz) (cwV 1 F.1.2.2.2.2 gL_isFailed_X10_isInDefault rfl rfl rfl (by decide +kernel) ⟨Nat.le_of_ble_eq_true rfl, Nat.le_of_ble_eq_true rfl⟩) 0 rfl rfl rfl [] [0, 1, 7] rfl rfl (by decide) rfl rfl (Nat.le_of_ble_eq_true rfl) dL_isFailed_2 ⟨Nat.le_of_ble_eq_true rfl, Nat.le_of_ble_eq_true rfl⟩) ?_ (fun r2 _ hw1 => ?_)
  · intro E9 u9 hx
    obtain ⟨hE9, hne⟩ := hx
    rcases (zc_onMember (lMc (kL k)) v) with hf | hf
    · exact absurd hf hne
    · rw [hf] at hE9
      subst hE9
      refine z_catchE F htab [] ⟨0, 13, 14, 19⟩ [] rfl (z_pass0) (by decide) (by decide) (zWd.at E.2.1.1 1 rfl rfl) (zEnv.ca E.1.1.1.1 3 rfl) (pc' := 14) rfl (fun q => ?_)
      refine z_astore_n (lv' := [(2, .ref q), (0, .ref (a 0)), (1, .int v)]) F dL_isFailed_14 rfl (by decide) rfl ?_
      refine z_sipush (v := (-1001)) F dL_isFailed_15 (by decide) ?_
      refine z_wide (k := 1) (n := 6) (Nat.le_of_ble_eq_true rfl) (Nat.le_of_ble_eq_true rfl) ?_
      exact z_iret F hA hQ hlk hr () (zIf1 (h := fun _ => -1001) hne) (rfl) dL_isFailed_18
  obtain ⟨hc2, hw1⟩ := hw1
  subst hw1
  refine z_if_eq (tgt := 12) F dL_isFailed_5 (by decide) (fun c3 => ?_) (fun c3 => ?_)
  · refine z_iconst (v := 0) F dL_isFailed_12 (by decide) ?_
    refine z_wide (k := 1) (n := 6) (Nat.le_of_ble_eq_true rfl) (Nat.le_of_ble_eq_true rfl) ?_
    exact z_iret F hA hQ hlk hr () (by rw [zIf, if_pos hc2, if_pos c3]) (rfl) dL_isFailed_13
  · refine z_iconst (v := 1) F dL_isFailed_8 (by decide) ?_
    refine z_goto (tgt := 13) F dL_isFailed_9 (by decide) ?_
    refine z_wide (k := 1) (n := 6) (Nat.le_of_ble_eq_true rfl) (Nat.le_of_ble_eq_true rfl) ?_
    exact z_iret F hA hQ hlk hr () (by rw [zIf, if_pos hc2, if_neg c3]) (rfl) dL_isFailed_13
set_option maxHeartbeats 4000000 in
set_option maxRecDepth 100000 in
theorem c_L_owed (l : Launch) (hl9 : l.stackTraces = false) (D : va_G) (g : Nat → ClassId) (er : Nat → Nat) (dg : Nat → Nat) (ec : Nat → Nat) (fs : Nat → Nat) (fv : Nat → Nat) (qa : Nat) (sw : Nat) (sb : Nat) (sn : Nat) (xs : Nat → Int32) (a : Nat → Nat) (k : zKK) (x : Nat → Int32) (o : zOO) (j : zGG) (v : Int32) (w : Int32) (hm : lMc (kL k) ≤ 8) (sz : Nat) : Met l yL_owed wsL_owed { frames := 8, cells := 1, slots := 6, locals := 124 } (zPc D (gT g) (zEnvL er D g dg ec fs fv qa sw sb sn xs) [.ref (a 0), .int v, .int w] (sysD g a k x o j) [] sz) (zQi D (sysD g a k x o j) (fun (r : Int32) (_ : Unit) => r = zIf (f_onPair (lMc (kL k)) v w) ((lAm (kL k)) (8 * z_n v + z_n w)) (fun f => if f = 1 then -1001 else -1002)) (fun _ => (sysD g a k x o j)) sz) 1 6 (va_A (sysD g a k x o j) sz) := by
  refine z_metW (y := yL_owed) (hh := [(0, 6, 7, 19), (0, 6, 12, 21)]) (cc := cL_owed) (nL := 4) (rm := { frames := 8, cells := 1, slots := 6, locals := 124 }) (D := D) (tys := gT g) (wr := []) (P0 := zEnvL er D g dg ec fs fv qa sw sb sn xs) (As := [.ref (a 0), .int v, .int w]) (ww := (sysD g a k x o j)) (Qc := zQi D (sysD g a k x o j) (fun (r : Int32) (_ : Unit) => r = zIf (f_onPair (lMc (kL k)) v w) ((lAm (kL k)) (8 * z_n v + z_n w)) (fun f => if f = 1 then -1001 else -1002)) (fun _ => (sysD g a k x o j))) (ret := (some .int)) (by decide) rfl (Nat.le_of_ble_eq_true rfl) ?_ sz
  intro p e s m args below meth c A Q hA hQ F E hr hlk htab
  show zW p l e { frames := 8, cells := 1, slots := 6, locals := 124 } s m args below meth c 4 D A Q 0 0 (sysD g a k x o j) [(0, .ref (a 0)), (1, .int v), (2, .int w)] [] 0
  refine z_aload_n F 0 dL_owed_0 rfl rfl ?_
  refine z_iload_n F 1 dL_owed_1 rfl rfl ?_
  refine z_iload_n F 2 dL_owed_2 rfl rfl ?_
  refine z_callXi0 F (z_runVX (st := []) F (zEnv_ok er) E.1.1.1.1 (fun sz => c_X10_owed l hl9 D g er a (lAm (kL k)) (lMc (kL k)) (lHc (kL k)) (lNe (kL k)) (lLo (kL k)) (kV k) (kE k) (kF k) v w (hm) sz) (cwV 2 F.1.2.2.2.2 gL_owed_X10_owed rfl rfl rfl (by decide +kernel) ⟨Nat.le_of_ble_eq_true rfl, Nat.le_of_ble_eq_true rfl⟩) 0 rfl rfl rfl [] [0, 1, 2] rfl rfl (by decide) rfl rfl (Nat.le_of_ble_eq_true rfl) dL_owed_3 ⟨Nat.le_of_ble_eq_true rfl, Nat.le_of_ble_eq_true rfl⟩) ?_ (fun r2 _ hw1 => ?_)
  · intro E9 u9 hx
    obtain ⟨hE9, hne⟩ := hx
    rcases (zc_onPair (lMc (kL k)) v w) with hf | hf | hf
    · exact absurd hf hne
    · rw [hf] at hE9
      subst hE9
      refine z_catchE F htab [] ⟨0, 6, 7, 19⟩ [⟨0, 6, 12, 21⟩] rfl (z_pass0) (by decide) (by decide) (zWd.at E.2.1.1 1 rfl rfl) (zEnv.ca E.1.1.1.1 3 rfl) (pc' := 7) rfl (fun q => ?_)
      refine z_astore_n (lv' := [(3, .ref q), (0, .ref (a 0)), (1, .int v), (2, .int w)]) F dL_owed_7 rfl (by decide) rfl ?_
      refine z_sipush (v := (-1001)) F dL_owed_8 (by decide) ?_
      refine z_wide (k := 1) (n := 6) (Nat.le_of_ble_eq_true rfl) (Nat.le_of_ble_eq_true rfl) ?_
      exact z_iret F hA hQ hlk hr () (by rw [zIf, if_neg hne, hf] <;> rfl) (rfl) dL_owed_11
    · rw [hf] at hE9
      subst hE9
      refine z_catchE F htab [⟨0, 6, 7, 19⟩] ⟨0, 6, 12, 21⟩ [] rfl ((z_passE F (x := ⟨0, 6, 7, 19⟩) (by decide) (zWd.at E.2.1.1 1 rfl rfl) (zEnv.nc E.1.1.1.1 7 rfl) z_pass0)) (by decide) (by decide) (zWd.at E.2.1.1 2 rfl rfl) (zEnv.ca E.1.1.1.1 1 rfl) (pc' := 12) rfl (fun q => ?_)
      refine z_astore_n (lv' := [(3, .ref q), (0, .ref (a 0)), (1, .int v), (2, .int w)]) F dL_owed_12 rfl (by decide) rfl ?_
      refine z_sipush (v := (-1002)) F dL_owed_13 (by decide) ?_
      refine z_wide (k := 1) (n := 6) (Nat.le_of_ble_eq_true rfl) (Nat.le_of_ble_eq_true rfl) ?_
      exact z_iret F hA hQ hlk hr () (by rw [zIf, if_neg hne, hf] <;> rfl) (rfl) dL_owed_16
  obtain ⟨hc3, hw1⟩ := hw1
  subst hw1
  refine z_wide (k := 1) (n := 6) (Nat.le_of_ble_eq_true rfl) (Nat.le_of_ble_eq_true rfl) ?_
  exact z_iret F hA hQ hlk hr () (zIf0 hc3) (rfl) dL_owed_6
set_option maxHeartbeats 4000000 in
set_option maxRecDepth 100000 in
theorem c_L_lossIf (l : Launch) (hl9 : l.stackTraces = false) (D : va_G) (g : Nat → ClassId) (er : Nat → Nat) (dg : Nat → Nat) (ec : Nat → Nat) (fs : Nat → Nat) (fv : Nat → Nat) (qa : Nat) (sw : Nat) (sb : Nat) (sn : Nat) (xs : Nat → Int32) (a : Nat → Nat) (k : zKK) (x : Nat → Int32) (o : zOO) (j : zGG) (v : Int32) (hm : lMc (kL k) ≤ 8) (sz : Nat) : Met l yL_lossIf wsL_lossIf { frames := 8, cells := 1, slots := 6, locals := 123 } (zPc D (gT g) (zEnvL er D g dg ec fs fv qa sw sb sn xs) [.ref (a 0), .int v] (sysD g a k x o j) [] sz) (zQi D (sysD g a k x o j) (fun (r : Int32) (_ : Unit) => r = zIf (f_onDf (lMc (kL k)) (lAm (kL k)) (lCo (kL k)) (lCa (kL k)) (zBo (lBo (kL k))) (lHc (kL k)) v) (f_loss (lAm (kL k)) (lCo (kL k)) (lCa (kL k)) (lHc (kL k)) (z_n v)) (fun f => if f = 1 then -1001 else -1002)) (fun _ => (sysD g a k x o j)) sz) 1 6 (va_A (sysD g a k x o j) sz) := by
  refine z_metW (y := yL_lossIf) (hh := [(0, 5, 6, 19), (0, 5, 11, 13)]) (cc := cL_lossIf) (nL := 3) (rm := { frames := 8, cells := 1, slots := 6, locals := 123 }) (D := D) (tys := gT g) (wr := []) (P0 := zEnvL er D g dg ec fs fv qa sw sb sn xs) (As := [.ref (a 0), .int v]) (ww := (sysD g a k x o j)) (Qc := zQi D (sysD g a k x o j) (fun (r : Int32) (_ : Unit) => r = zIf (f_onDf (lMc (kL k)) (lAm (kL k)) (lCo (kL k)) (lCa (kL k)) (zBo (lBo (kL k))) (lHc (kL k)) v) (f_loss (lAm (kL k)) (lCo (kL k)) (lCa (kL k)) (lHc (kL k)) (z_n v)) (fun f => if f = 1 then -1001 else -1002)) (fun _ => (sysD g a k x o j))) (ret := (some .int)) (by decide) rfl (Nat.le_of_ble_eq_true rfl) ?_ sz
  intro p e s m args below meth c A Q hA hQ F E hr hlk htab
  show zW p l e { frames := 8, cells := 1, slots := 6, locals := 123 } s m args below meth c 3 D A Q 0 0 (sysD g a k x o j) [(0, .ref (a 0)), (1, .int v)] [] 0
  refine z_aload_n F 0 dL_lossIf_0 rfl rfl ?_
  refine z_iload_n F 1 dL_lossIf_1 rfl rfl ?_
  refine z_callXi0 F (z_runVX (st := []) F (zEnv_ok er) E.1.1.1.1 (fun sz => c_X10_lossIfDefault l hl9 D g er a (lAm (kL k)) (lCo (kL k)) (lCa (kL k)) (lBo (kL k)) (lMc (kL k)) (lHc (kL k)) (lNe (kL k)) (lLo (kL k)) (kV k) (kE k) (kF k) v (hm) sz) (cwV 1 F.1.2.2.2.2 gL_lossIf_X10_lossIfDefault rfl rfl rfl (by decide +kernel) ⟨Nat.le_of_ble_eq_true rfl, Nat.le_of_ble_eq_true rfl⟩) 0 rfl rfl rfl [] [0, 1, 2, 3, 4, 7] rfl rfl (by decide) rfl rfl (Nat.le_of_ble_eq_true rfl) dL_lossIf_2 ⟨Nat.le_of_ble_eq_true rfl, Nat.le_of_ble_eq_true rfl⟩) ?_ (fun r2 _ hw1 => ?_)
  · intro E9 u9 hx
    obtain ⟨hE9, hne⟩ := hx
    rcases (zc_onDf (lMc (kL k)) (lAm (kL k)) (lCo (kL k)) (lCa (kL k)) ((zBo (lBo (kL k)))) (lHc (kL k)) v) with hf | hf | hf
    · exact absurd hf hne
    · rw [hf] at hE9
      subst hE9
      refine z_catchE F htab [] ⟨0, 5, 6, 19⟩ [⟨0, 5, 11, 13⟩] rfl (z_pass0) (by decide) (by decide) (zWd.at E.2.1.1 1 rfl rfl) (zEnv.ca E.1.1.1.1 3 rfl) (pc' := 6) rfl (fun q => ?_)
      refine z_astore_n (lv' := [(2, .ref q), (0, .ref (a 0)), (1, .int v)]) F dL_lossIf_6 rfl (by decide) rfl ?_
      refine z_sipush (v := (-1001)) F dL_lossIf_7 (by decide) ?_
      refine z_wide (k := 1) (n := 6) (Nat.le_of_ble_eq_true rfl) (Nat.le_of_ble_eq_true rfl) ?_
      exact z_iret F hA hQ hlk hr () (by rw [zIf, if_neg hne, hf] <;> rfl) (rfl) dL_lossIf_10
    · rw [hf] at hE9
      subst hE9
      refine z_catchE F htab [⟨0, 5, 6, 19⟩] ⟨0, 5, 11, 13⟩ [] rfl ((z_passE F (x := ⟨0, 5, 6, 19⟩) (by decide) (zWd.at E.2.1.1 1 rfl rfl) (zEnv.nc E.1.1.1.1 12 rfl) z_pass0)) (by decide) (by decide) (zWd.at E.2.1.1 0 rfl rfl) (zEnv.ca E.1.1.1.1 2 rfl) (pc' := 11) rfl (fun q => ?_)
      refine z_astore_n (lv' := [(2, .ref q), (0, .ref (a 0)), (1, .int v)]) F dL_lossIf_11 rfl (by decide) rfl ?_
      refine z_sipush (v := (-1002)) F dL_lossIf_12 (by decide) ?_
      refine z_wide (k := 1) (n := 6) (Nat.le_of_ble_eq_true rfl) (Nat.le_of_ble_eq_true rfl) ?_
      exact z_iret F hA hQ hlk hr () (by rw [zIf, if_neg hne, hf] <;> rfl) (rfl) dL_lossIf_15
  obtain ⟨hc2, hw1⟩ := hw1
  subst hw1
  refine z_wide (k := 1) (n := 6) (Nat.le_of_ble_eq_true rfl) (Nat.le_of_ble_eq_true rfl) ?_
  exact z_iret F hA hQ hlk hr () (zIf0 hc2) (rfl) dL_lossIf_5
set_option maxHeartbeats 4000000 in
set_option maxRecDepth 100000 in
theorem c_L_largestDebtor (l : Launch) (hl9 : l.stackTraces = false) (D : va_G) (g : Nat → ClassId) (er : Nat → Nat) (dg : Nat → Nat) (ec : Nat → Nat) (fs : Nat → Nat) (fv : Nat → Nat) (qa : Nat) (sw : Nat) (sb : Nat) (sn : Nat) (xs : Nat → Int32) (a : Nat → Nat) (k : zKK) (x : Nat → Int32) (o : zOO) (j : zGG) (hm : lMc (kL k) ≤ 8) (sz : Nat) : Met l yL_largestDebtor wsL_largestDebtor { frames := 7, cells := 1, slots := 6, locals := 103 } (zPc D (gT g) (zEnvL er D g dg ec fs fv qa sw sb sn xs) [.ref (a 0)] (sysD g a k x o j) [] sz) (zQi D (sysD g a k x o j) (fun (r : Int32) (_ : Unit) => r = zIf ((if f_place (lAm (kL k)) = -1 then 5 else 0)) (f_place (lAm (kL k)) / 8) (fun f => -1001)) (fun _ => (sysD g a k x o j)) sz) 1 6 (va_A (sysD g a k x o j) sz) := by
  refine z_metW (y := yL_largestDebtor) (hh := [(0, 4, 5, 82)]) (cc := cL_largestDebtor) (nL := 2) (rm := { frames := 7, cells := 1, slots := 6, locals := 103 }) (D := D) (tys := gT g) (wr := []) (P0 := zEnvL er D g dg ec fs fv qa sw sb sn xs) (As := [.ref (a 0)]) (ww := (sysD g a k x o j)) (Qc := zQi D (sysD g a k x o j) (fun (r : Int32) (_ : Unit) => r = zIf ((if f_place (lAm (kL k)) = -1 then 5 else 0)) (f_place (lAm (kL k)) / 8) (fun f => -1001)) (fun _ => (sysD g a k x o j))) (ret := (some .int)) (by decide) rfl (Nat.le_of_ble_eq_true rfl) ?_ sz
  intro p e s m args below meth c A Q hA hQ F E hr hlk htab
  show zW p l e { frames := 7, cells := 1, slots := 6, locals := 103 } s m args below meth c 2 D A Q 0 0 (sysD g a k x o j) [(0, .ref (a 0))] [] 0
  refine z_aload_n F 0 dL_largestDebtor_0 rfl rfl ?_
  refine z_callXi0 F (z_runVX (st := []) F (zEnv_ok er) E.1.1.1.1 (fun sz => c_X10_largestDebtor l hl9 D g er a (lAm (kL k)) (lMc (kL k)) (lHc (kL k)) (lNe (kL k)) (lLo (kL k)) (kV k) (kE k) (kF k) (hm) sz) (cwV 0 F.1.2.2.2.2 gL_largestDebtor_X10_largestDebtor rfl rfl rfl (by decide +kernel) ⟨Nat.le_of_ble_eq_true rfl, Nat.le_of_ble_eq_true rfl⟩) 0 rfl rfl rfl [] [0, 1, 2] rfl rfl (by decide) rfl rfl (Nat.le_of_ble_eq_true rfl) dL_largestDebtor_1 ⟨Nat.le_of_ble_eq_true rfl, Nat.le_of_ble_eq_true rfl⟩) ?_ (fun r2 _ hw1 => ?_)
  · intro E9 u9 hx
    obtain ⟨hE9, hne⟩ := hx
    rcases (zc_lp (lAm (kL k))) with hf | hf
    · exact absurd hf hne
    · rw [hf] at hE9
      subst hE9
      refine z_catchE F htab [] ⟨0, 4, 5, 82⟩ [] rfl (z_pass0) (by decide) (by decide) (zWd.at E.2.1.1 4 rfl rfl) (zEnv.ca E.1.1.1.1 6 rfl) (pc' := 5) rfl (fun q => ?_)
      refine z_astore_n (lv' := [(1, .ref q), (0, .ref (a 0))]) F dL_largestDebtor_5 rfl (by decide) rfl ?_
      refine z_sipush (v := (-1001)) F dL_largestDebtor_6 (by decide) ?_
      refine z_wide (k := 1) (n := 6) (Nat.le_of_ble_eq_true rfl) (Nat.le_of_ble_eq_true rfl) ?_
      exact z_iret F hA hQ hlk hr () (zIf1 (h := (fun f => -1001)) hne) (rfl) dL_largestDebtor_9
  obtain ⟨hc1, hw1⟩ := hw1
  refine z_top hw1 ?_
  refine z_wide (k := 1) (n := 6) (Nat.le_of_ble_eq_true rfl) (Nat.le_of_ble_eq_true rfl) ?_
  exact z_iret F hA hQ hlk hr () (zIf0 hc1) (rfl) dL_largestDebtor_4
set_option maxHeartbeats 4000000 in
set_option maxRecDepth 100000 in
theorem c_L_largestCreditor (l : Launch) (hl9 : l.stackTraces = false) (D : va_G) (g : Nat → ClassId) (er : Nat → Nat) (dg : Nat → Nat) (ec : Nat → Nat) (fs : Nat → Nat) (fv : Nat → Nat) (qa : Nat) (sw : Nat) (sb : Nat) (sn : Nat) (xs : Nat → Int32) (a : Nat → Nat) (k : zKK) (x : Nat → Int32) (o : zOO) (j : zGG) (hm : lMc (kL k) ≤ 8) (sz : Nat) : Met l yL_largestCreditor wsL_largestCreditor { frames := 7, cells := 1, slots := 6, locals := 103 } (zPc D (gT g) (zEnvL er D g dg ec fs fv qa sw sb sn xs) [.ref (a 0)] (sysD g a k x o j) [] sz) (zQi D (sysD g a k x o j) (fun (r : Int32) (_ : Unit) => r = zIf ((if f_place (lAm (kL k)) = -1 then 5 else 0)) (f_place (lAm (kL k)) - f_place (lAm (kL k)) / 8 * 8) (fun f => -1001)) (fun _ => (sysD g a k x o j)) sz) 1 6 (va_A (sysD g a k x o j) sz) := by
  refine z_metW (y := yL_largestCreditor) (hh := [(0, 4, 5, 82)]) (cc := cL_largestCreditor) (nL := 2) (rm := { frames := 7, cells := 1, slots := 6, locals := 103 }) (D := D) (tys := gT g) (wr := []) (P0 := zEnvL er D g dg ec fs fv qa sw sb sn xs) (As := [.ref (a 0)]) (ww := (sysD g a k x o j)) (Qc := zQi D (sysD g a k x o j) (fun (r : Int32) (_ : Unit) => r = zIf ((if f_place (lAm (kL k)) = -1 then 5 else 0)) (f_place (lAm (kL k)) - f_place (lAm (kL k)) / 8 * 8) (fun f => -1001)) (fun _ => (sysD g a k x o j))) (ret := (some .int)) (by decide) rfl (Nat.le_of_ble_eq_true rfl) ?_ sz
  intro p e s m args below meth c A Q hA hQ F E hr hlk htab
  show zW p l e { frames := 7, cells := 1, slots := 6, locals := 103 } s m args below meth c 2 D A Q 0 0 (sysD g a k x o j) [(0, .ref (a 0))] [] 0
  refine z_aload_n F 0 dL_largestCreditor_0 rfl rfl ?_
  refine z_callXi0 F (z_runVX (st := []) F (zEnv_ok er) E.1.1.1.1 (fun sz => c_X10_largestCreditor l hl9 D g er a (lAm (kL k)) (lMc (kL k)) (lHc (kL k)) (lNe (kL k)) (lLo (kL k)) (kV k) (kE k) (kF k) (hm) sz) (cwV 0 F.1.2.2.2.2 gL_largestCreditor_X10_largestCreditor rfl rfl rfl (by decide +kernel) ⟨Nat.le_of_ble_eq_true rfl, Nat.le_of_ble_eq_true rfl⟩) 0 rfl rfl rfl [] [0, 1, 2] rfl rfl (by decide) rfl rfl (Nat.le_of_ble_eq_true rfl) dL_largestCreditor_1 ⟨Nat.le_of_ble_eq_true rfl, Nat.le_of_ble_eq_true rfl⟩) ?_ (fun r2 _ hw1 => ?_)
  · intro E9 u9 hx
    obtain ⟨hE9, hne⟩ := hx
    rcases (zc_lp (lAm (kL k))) with hf | hf
    · exact absurd hf hne
    · rw [hf] at hE9
      subst hE9
      refine z_catchE F htab [] ⟨0, 4, 5, 82⟩ [] rfl (z_pass0) (by decide) (by decide) (zWd.at E.2.1.1 4 rfl rfl) (zEnv.ca E.1.1.1.1 6 rfl) (pc' := 5) rfl (fun q => ?_)
      refine z_astore_n (lv' := [(1, .ref q), (0, .ref (a 0))]) F dL_largestCreditor_5 rfl (by decide) rfl ?_
      refine z_sipush (v := (-1001)) F dL_largestCreditor_6 (by decide) ?_
      refine z_wide (k := 1) (n := 6) (Nat.le_of_ble_eq_true rfl) (Nat.le_of_ble_eq_true rfl) ?_
      exact z_iret F hA hQ hlk hr () (zIf1 (h := (fun f => -1001)) hne) (rfl) dL_largestCreditor_9
  obtain ⟨hc1, hw1⟩ := hw1
  refine z_top hw1 ?_
  refine z_wide (k := 1) (n := 6) (Nat.le_of_ble_eq_true rfl) (Nat.le_of_ble_eq_true rfl) ?_
  exact z_iret F hA hQ hlk hr () (zIf0 hc1) (rfl) dL_largestCreditor_4
set_option maxHeartbeats 4000000 in
set_option maxRecDepth 100000 in
theorem c_L_byPosition (l : Launch) (hl9 : l.stackTraces = false) (D : va_G) (g : Nat → ClassId) (er : Nat → Nat) (dg : Nat → Nat) (ec : Nat → Nat) (fs : Nat → Nat) (fv : Nat → Nat) (qa : Nat) (sw : Nat) (sb : Nat) (sn : Nat) (xs : Nat → Int32) (a : Nat → Nat) (k : zKK) (x : Nat → Int32) (o : zOO) (j : zGG) (v : Int32) (hm : lMc (kL k) ≤ 8) (sz : Nat) : Met l yL_byPosition wsL_byPosition { frames := 7, cells := 1, slots := 6, locals := 156 } (zPc D (gT g) (zEnvL er D g dg ec fs fv qa sw sb sn xs) [.ref (a 0), .int v] (sysD g a k x o j) [] sz) (zQi D (sysD g a k x o j) (fun (r : Int32) (_ : Unit) => r = zIf ((if f_rank (lAm (kL k)) (lCo (kL k)) (lMc (kL k)) v = -1 then 5 else 0)) (f_rank (lAm (kL k)) (lCo (kL k)) (lMc (kL k)) v) (fun f => -1001)) (fun _ => (sysD g a k x o j)) sz) 1 6 (va_A (sysD g a k x o j) sz) := by
  refine z_metW (y := yL_byPosition) (hh := [(0, 5, 6, 82)]) (cc := cL_byPosition) (nL := 3) (rm := { frames := 7, cells := 1, slots := 6, locals := 156 }) (D := D) (tys := gT g) (wr := []) (P0 := zEnvL er D g dg ec fs fv qa sw sb sn xs) (As := [.ref (a 0), .int v]) (ww := (sysD g a k x o j)) (Qc := zQi D (sysD g a k x o j) (fun (r : Int32) (_ : Unit) => r = zIf ((if f_rank (lAm (kL k)) (lCo (kL k)) (lMc (kL k)) v = -1 then 5 else 0)) (f_rank (lAm (kL k)) (lCo (kL k)) (lMc (kL k)) v) (fun f => -1001)) (fun _ => (sysD g a k x o j))) (ret := (some .int)) (by decide) rfl (Nat.le_of_ble_eq_true rfl) ?_ sz
  intro p e s m args below meth c A Q hA hQ F E hr hlk htab
  show zW p l e { frames := 7, cells := 1, slots := 6, locals := 156 } s m args below meth c 3 D A Q 0 0 (sysD g a k x o j) [(0, .ref (a 0)), (1, .int v)] [] 0
  refine z_aload_n F 0 dL_byPosition_0 rfl rfl ?_
  refine z_iload_n F 1 dL_byPosition_1 rfl rfl ?_
  refine z_callXi0 F (z_runVX (st := []) F (zEnv_ok er) E.1.1.1.1 (fun sz => c_X10_memberByPosition l hl9 D g er a (lAm (kL k)) (lCo (kL k)) (lMc (kL k)) (lHc (kL k)) (lNe (kL k)) (lLo (kL k)) (kV k) (kE k) (kF k) v (hm) sz) (cwV 1 F.1.2.2.2.2 gL_byPosition_X10_memberByPosition rfl rfl rfl (by decide +kernel) ⟨Nat.le_of_ble_eq_true rfl, Nat.le_of_ble_eq_true rfl⟩) 0 rfl rfl rfl [] [0, 1, 2, 3] rfl rfl (by decide) rfl rfl (Nat.le_of_ble_eq_true rfl) dL_byPosition_2 ⟨Nat.le_of_ble_eq_true rfl, Nat.le_of_ble_eq_true rfl⟩) ?_ (fun r2 _ hw1 => ?_)
  · intro E9 u9 hx
    obtain ⟨hE9, hne⟩ := hx
    rcases (zc_i (f_rank (lAm (kL k)) (lCo (kL k)) (lMc (kL k)) v = -1) inferInstance 5 0).symm with hf | hf
    · exact absurd hf hne
    · rw [hf] at hE9
      subst hE9
      refine z_catchE F htab [] ⟨0, 5, 6, 82⟩ [] rfl (z_pass0) (by decide) (by decide) (zWd.at E.2.1.1 4 rfl rfl) (zEnv.ca E.1.1.1.1 6 rfl) (pc' := 6) rfl (fun q => ?_)
      refine z_astore_n (lv' := [(2, .ref q), (0, .ref (a 0)), (1, .int v)]) F dL_byPosition_6 rfl (by decide) rfl ?_
      refine z_sipush (v := (-1001)) F dL_byPosition_7 (by decide) ?_
      refine z_wide (k := 1) (n := 6) (Nat.le_of_ble_eq_true rfl) (Nat.le_of_ble_eq_true rfl) ?_
      exact z_iret F hA hQ hlk hr () (zIf1 (h := (fun f => -1001)) hne) (rfl) dL_byPosition_10
  obtain ⟨hc2, hw1⟩ := hw1
  refine z_top hw1 ?_
  refine z_wide (k := 1) (n := 6) (Nat.le_of_ble_eq_true rfl) (Nat.le_of_ble_eq_true rfl) ?_
  exact z_iret F hA hQ hlk hr () (zIf0 hc2) (rfl) dL_byPosition_5
set_option maxHeartbeats 4000000 in
set_option maxRecDepth 100000 in
theorem c_L_outputChar (l : Launch) (hl9 : l.stackTraces = false) (D : va_G) (g : Nat → ClassId) (er : Nat → Nat) (dg : Nat → Nat) (ec : Nat → Nat) (fs : Nat → Nat) (fv : Nat → Nat) (qa : Nat) (sw : Nat) (sb : Nat) (sn : Nat) (xs : Nat → Int32) (a : Nat → Nat) (k : zKK) (x : Nat → Int32) (o : zOO) (j : zGG) (v : Int32) (hbc : oN o ≤ oC o) (hb3 : oC o ≤ 300) (sz : Nat) : Met l yL_outputChar wsL_outputChar { frames := 7, cells := 1, slots := 6, locals := 109 } (zPc D (gT g) (zEnvL er D g dg ec fs fv qa sw sb sn xs) [.ref (a 0), .int v] (sysD g a k x o j) [] sz) (zQi D (sysD g a k x o j) (fun (r : Int32) (_ : Unit) => r = zIf (f_oc (oN o) v) (f_ch (zBy (oP o) (z_n v))) (fun f => -1001)) (fun _ => (sysD g a k x o j)) sz) 1 6 (va_A (sysD g a k x o j) sz) := by
  refine z_metW (y := yL_outputChar) (hh := [(0, 5, 6, 19)]) (cc := cL_outputChar) (nL := 3) (rm := { frames := 7, cells := 1, slots := 6, locals := 109 }) (D := D) (tys := gT g) (wr := []) (P0 := zEnvL er D g dg ec fs fv qa sw sb sn xs) (As := [.ref (a 0), .int v]) (ww := (sysD g a k x o j)) (Qc := zQi D (sysD g a k x o j) (fun (r : Int32) (_ : Unit) => r = zIf (f_oc (oN o) v) (f_ch (zBy (oP o) (z_n v))) (fun f => -1001)) (fun _ => (sysD g a k x o j))) (ret := (some .int)) (by decide) rfl (Nat.le_of_ble_eq_true rfl) ?_ sz
  intro p e s m args below meth c A Q hA hQ F E hr hlk htab
  show zW p l e { frames := 7, cells := 1, slots := 6, locals := 109 } s m args below meth c 3 D A Q 0 0 (sysD g a k x o j) [(0, .ref (a 0)), (1, .int v)] [] 0
  refine z_aload_n F 0 dL_outputChar_0 rfl rfl ?_
  refine z_iload_n F 1 dL_outputChar_1 rfl rfl ?_
  refine z_callXi0 F (z_runVX (st := []) F ((zEnv2_ok er D g dg)) E.1.1.1 (fun sz => c_X10_outputChar l hl9 D g er dg a (kV k) (kE k) (kF k) (oB o) (oC o) (oP o) (oM o) (oN o) v (hbc) (hb3) sz) (cwV 1 F.1.2.2.2.2 gL_outputChar_X10_outputChar rfl rfl rfl (by decide +kernel) ⟨Nat.le_of_ble_eq_true rfl, Nat.le_of_ble_eq_true rfl⟩) 0 rfl rfl rfl [] [0, 94, 95] rfl rfl (by decide) rfl rfl (Nat.le_of_ble_eq_true rfl) dL_outputChar_2 ⟨Nat.le_of_ble_eq_true rfl, Nat.le_of_ble_eq_true rfl⟩) ?_ (fun r2 _ hw1 => ?_)
  · intro E9 u9 hx
    obtain ⟨hE9, hne⟩ := hx
    rcases (zc_oc (oN o) v) with hf | hf
    · exact absurd hf hne
    · rw [hf] at hE9
      subst hE9
      refine z_catchE F htab [] ⟨0, 5, 6, 19⟩ [] rfl (z_pass0) (by decide) (by decide) (zWd.at E.2.1.1 1 rfl rfl) (zEnv.ca E.1.1.1.1 3 rfl) (pc' := 6) rfl (fun q => ?_)
      refine z_astore_n (lv' := [(2, .ref q), (0, .ref (a 0)), (1, .int v)]) F dL_outputChar_6 rfl (by decide) rfl ?_
      refine z_sipush (v := (-1001)) F dL_outputChar_7 (by decide) ?_
      refine z_wide (k := 1) (n := 6) (Nat.le_of_ble_eq_true rfl) (Nat.le_of_ble_eq_true rfl) ?_
      exact z_iret F hA hQ hlk hr () (zIf1 (h := (fun f => -1001)) hne) (rfl) dL_outputChar_10
  obtain ⟨hc2, hw1⟩ := hw1
  subst hw1
  refine z_wide (k := 1) (n := 6) (Nat.le_of_ble_eq_true rfl) (Nat.le_of_ble_eq_true rfl) ?_
  exact z_iret F hA hQ hlk hr () (zIf0 hc2) (rfl) dL_outputChar_5
set_option maxHeartbeats 4000000 in
set_option maxRecDepth 100000 in
theorem c_L_reachByRounds (l : Launch) (hl9 : l.stackTraces = false) (D : va_G) (g : Nat → ClassId) (er : Nat → Nat) (dg : Nat → Nat) (ec : Nat → Nat) (fs : Nat → Nat) (fv : Nat → Nat) (qa : Nat) (sw : Nat) (sb : Nat) (sn : Nat) (xs : Nat → Int32) (a : Nat → Nat) (k : zKK) (x : Nat → Int32) (o : zOO) (j : zGG) (v : Int32) (hm : lMc (kL k) ≤ 8) (hne9 : ¬ f_onMember (lMc (kL k)) v = 0) (sz : Nat) : Met l yL_reachByRounds wsL_reachByRounds { frames := 8, cells := 1, slots := 6, locals := 123 } (zPc D (gT g) (zEnvL er D g dg ec fs fv qa sw sb sn xs) [.ref (a 0), .int v] (sysD g a k x o j) [] sz) (zQi D (sysD g a k x o j) (fun (r : Int32) (_ : Unit) => r = zIf (f_onMember (lMc (kL k)) v) 0 (fun f => -1001)) (fun _ => (sysD g a k x o j)) sz) 1 6 (va_A (sysD g a k x o j) sz) := by
  refine z_metW (y := yL_reachByRounds) (hh := [(0, 5, 6, 19)]) (cc := cL_reachByRounds) (nL := 3) (rm := { frames := 8, cells := 1, slots := 6, locals := 123 }) (D := D) (tys := gT g) (wr := []) (P0 := zEnvL er D g dg ec fs fv qa sw sb sn xs) (As := [.ref (a 0), .int v]) (ww := (sysD g a k x o j)) (Qc := zQi D (sysD g a k x o j) (fun (r : Int32) (_ : Unit) => r = zIf (f_onMember (lMc (kL k)) v) 0 (fun f => -1001)) (fun _ => (sysD g a k x o j))) (ret := (some .int)) (by decide) rfl (Nat.le_of_ble_eq_true rfl) ?_ sz
  intro p e s m args below meth c A Q hA hQ F E hr hlk htab
  show zW p l e { frames := 8, cells := 1, slots := 6, locals := 123 } s m args below meth c 3 D A Q 0 0 (sysD g a k x o j) [(0, .ref (a 0)), (1, .int v)] [] 0
  refine z_aload_n F 0 dL_reachByRounds_0 rfl rfl ?_
  refine z_iload_n F 1 dL_reachByRounds_1 rfl rfl ?_
  refine z_callXi0 F (z_runVX (st := []) F (zEnv_ok er) E.1.1.1.1 (fun sz => c_X10_reachCountByRounds l hl9 D g er a (lMc (kL k)) (lHc (kL k)) (lNe (kL k)) (lLo (kL k)) (kV k) (kE k) (kF k) v (hm) (hne9) sz) (cwV 1 F.1.2.2.2.2 gL_reachByRounds_X10_reachCountByRounds rfl rfl rfl (by decide +kernel) ⟨Nat.le_of_ble_eq_true rfl, Nat.le_of_ble_eq_true rfl⟩) 0 rfl rfl rfl [] [0, 1] rfl rfl (by decide) rfl rfl (Nat.le_of_ble_eq_true rfl) dL_reachByRounds_2 ⟨Nat.le_of_ble_eq_true rfl, Nat.le_of_ble_eq_true rfl⟩) ?_ (fun r2 _ hw1 => ?_)
  · intro E9 u9 hx
    obtain ⟨hE9, hne⟩ := hx
    rcases (zc_onMember (lMc (kL k)) v) with hf | hf
    · exact absurd hf hne
    · rw [hf] at hE9
      subst hE9
      refine z_catchE F htab [] ⟨0, 5, 6, 19⟩ [] rfl (z_pass0) (by decide) (by decide) (zWd.at E.2.1.1 1 rfl rfl) (zEnv.ca E.1.1.1.1 3 rfl) (pc' := 6) rfl (fun q => ?_)
      refine z_astore_n (lv' := [(2, .ref q), (0, .ref (a 0)), (1, .int v)]) F dL_reachByRounds_6 rfl (by decide) rfl ?_
      refine z_sipush (v := (-1001)) F dL_reachByRounds_7 (by decide) ?_
      refine z_wide (k := 1) (n := 6) (Nat.le_of_ble_eq_true rfl) (Nat.le_of_ble_eq_true rfl) ?_
      exact z_iret F hA hQ hlk hr () (zIf1 (h := (fun f => -1001)) hne) (rfl) dL_reachByRounds_10
  obtain ⟨hc2, hw1⟩ := hw1
  subst hw1
  exact absurd hc2 hne9
set_option maxHeartbeats 4000000 in
set_option maxRecDepth 100000 in
theorem c_L_reaches (l : Launch) (hl9 : l.stackTraces = false) (D : va_G) (g : Nat → ClassId) (er : Nat → Nat) (dg : Nat → Nat) (ec : Nat → Nat) (fs : Nat → Nat) (fv : Nat → Nat) (qa : Nat) (sw : Nat) (sb : Nat) (sn : Nat) (xs : Nat → Int32) (a : Nat → Nat) (k : zKK) (x : Nat → Int32) (o : zOO) (j : zGG) (v : Int32) (w : Int32) (hm : lMc (kL k) ≤ 8) (hne9 : ¬ f_onPair (lMc (kL k)) v w = 0) (sz : Nat) : Met l yL_reaches wsL_reaches { frames := 8, cells := 1, slots := 6, locals := 124 } (zPc D (gT g) (zEnvL er D g dg ec fs fv qa sw sb sn xs) [.ref (a 0), .int v, .int w] (sysD g a k x o j) [] sz) (zQi D (sysD g a k x o j) (fun (r : Int32) (_ : Unit) => r = zIf (f_onPair (lMc (kL k)) v w) 0 (fun f => if f = 1 then -1001 else -1002)) (fun _ => (sysD g a k x o j)) sz) 1 6 (va_A (sysD g a k x o j) sz) := by
  refine z_metW (y := yL_reaches) (hh := [(0, 14, 15, 19), (0, 14, 20, 21)]) (cc := cL_reaches) (nL := 4) (rm := { frames := 8, cells := 1, slots := 6, locals := 124 }) (D := D) (tys := gT g) (wr := []) (P0 := zEnvL er D g dg ec fs fv qa sw sb sn xs) (As := [.ref (a 0), .int v, .int w]) (ww := (sysD g a k x o j)) (Qc := zQi D (sysD g a k x o j) (fun (r : Int32) (_ : Unit) => r = zIf (f_onPair (lMc (kL k)) v w) 0 (fun f => if f = 1 then -1001 else -1002)) (fun _ => (sysD g a k x o j))) (ret := (some .int)) (by decide) rfl (Nat.le_of_ble_eq_true rfl) ?_ sz
  intro p e s m args below meth c A Q hA hQ F E hr hlk htab
  show zW p l e { frames := 8, cells := 1, slots := 6, locals := 124 } s m args below meth c 4 D A Q 0 0 (sysD g a k x o j) [(0, .ref (a 0)), (1, .int v), (2, .int w)] [] 0
  refine z_aload_n F 0 dL_reaches_0 rfl rfl ?_
  refine z_iload_n F 1 dL_reaches_1 rfl rfl ?_
  refine z_iload_n F 2 dL_reaches_2 rfl rfl ?_
  refine z_callXi0 F (z_runVX (st := []) F (zEnv_ok er) E.1.1.1.1 (fun sz => c_X10_reaches l hl9 D g er a (lMc (kL k)) (lHc (kL k)) (lNe (kL k)) (lLo (kL k)) (kV k) (kE k) (kF k) v w (hm) (hne9) sz) (cwV 2 F.1.2.2.2.2 gL_reaches_X10_reaches rfl rfl rfl (by decide +kernel) ⟨Nat.le_of_ble_eq_true rfl, Nat.le_of_ble_eq_true rfl⟩) 0 rfl rfl rfl [] [0, 1] rfl rfl (by decide) rfl rfl (Nat.le_of_ble_eq_true rfl) dL_reaches_3 ⟨Nat.le_of_ble_eq_true rfl, Nat.le_of_ble_eq_true rfl⟩) ?_ (fun r2 _ hw1 => ?_)
  · intro E9 u9 hx
    obtain ⟨hE9, hne⟩ := hx
    rcases (zc_onPair (lMc (kL k)) v w) with hf | hf | hf
    · exact absurd hf hne
    · rw [hf] at hE9
      subst hE9
      refine z_catchE F htab [] ⟨0, 14, 15, 19⟩ [⟨0, 14, 20, 21⟩] rfl (z_pass0) (by decide) (by decide) (zWd.at E.2.1.1 1 rfl rfl) (zEnv.ca E.1.1.1.1 3 rfl) (pc' := 15) rfl (fun q => ?_)
      refine z_astore_n (lv' := [(3, .ref q), (0, .ref (a 0)), (1, .int v), (2, .int w)]) F dL_reaches_15 rfl (by decide) rfl ?_
      refine z_sipush (v := (-1001)) F dL_reaches_16 (by decide) ?_
      refine z_wide (k := 1) (n := 6) (Nat.le_of_ble_eq_true rfl) (Nat.le_of_ble_eq_true rfl) ?_
      exact z_iret F hA hQ hlk hr () (by rw [zIf, if_neg hne, hf] <;> rfl) (rfl) dL_reaches_19
    · rw [hf] at hE9
      subst hE9
      refine z_catchE F htab [⟨0, 14, 15, 19⟩] ⟨0, 14, 20, 21⟩ [] rfl ((z_passE F (x := ⟨0, 14, 15, 19⟩) (by decide) (zWd.at E.2.1.1 1 rfl rfl) (zEnv.nc E.1.1.1.1 7 rfl) z_pass0)) (by decide) (by decide) (zWd.at E.2.1.1 2 rfl rfl) (zEnv.ca E.1.1.1.1 1 rfl) (pc' := 20) rfl (fun q => ?_)
      refine z_astore_n (lv' := [(3, .ref q), (0, .ref (a 0)), (1, .int v), (2, .int w)]) F dL_reaches_20 rfl (by decide) rfl ?_
      refine z_sipush (v := (-1002)) F dL_reaches_21 (by decide) ?_
      refine z_wide (k := 1) (n := 6) (Nat.le_of_ble_eq_true rfl) (Nat.le_of_ble_eq_true rfl) ?_
      exact z_iret F hA hQ hlk hr () (by rw [zIf, if_neg hne, hf] <;> rfl) (rfl) dL_reaches_24
  obtain ⟨hc3, hw1⟩ := hw1
  subst hw1
  exact absurd hc3 hne9
set_option maxHeartbeats 4000000 in
set_option maxRecDepth 100000 in
theorem c_L_shareIf (l : Launch) (hl9 : l.stackTraces = false) (D : va_G) (g : Nat → ClassId) (er : Nat → Nat) (dg : Nat → Nat) (ec : Nat → Nat) (fs : Nat → Nat) (fv : Nat → Nat) (qa : Nat) (sw : Nat) (sb : Nat) (sn : Nat) (xs : Nat → Int32) (a : Nat → Nat) (k : zKK) (x : Nat → Int32) (o : zOO) (j : zGG) (v : Int32) (w : Int32) (hm : lMc (kL k) ≤ 8) (hne9 : ¬ f_onPair (lMc (kL k)) v w = 0) (sz : Nat) : Met l yL_shareIf wsL_shareIf { frames := 8, cells := 1, slots := 6, locals := 124 } (zPc D (gT g) (zEnvL er D g dg ec fs fv qa sw sb sn xs) [.ref (a 0), .int v, .int w] (sysD g a k x o j) [] sz) (zQi D (sysD g a k x o j) (fun (r : Int32) (_ : Unit) => r = zIf (f_onPair (lMc (kL k)) v w) 0 (fun f => if f = 1 then -1001 else -1002)) (fun _ => (sysD g a k x o j)) sz) 1 6 (va_A (sysD g a k x o j) sz) := by
  refine z_metW (y := yL_shareIf) (hh := [(0, 6, 7, 19), (0, 6, 12, 21), (0, 6, 17, 13)]) (cc := cL_shareIf) (nL := 4) (rm := { frames := 8, cells := 1, slots := 6, locals := 124 }) (D := D) (tys := gT g) (wr := []) (P0 := zEnvL er D g dg ec fs fv qa sw sb sn xs) (As := [.ref (a 0), .int v, .int w]) (ww := (sysD g a k x o j)) (Qc := zQi D (sysD g a k x o j) (fun (r : Int32) (_ : Unit) => r = zIf (f_onPair (lMc (kL k)) v w) 0 (fun f => if f = 1 then -1001 else -1002)) (fun _ => (sysD g a k x o j))) (ret := (some .int)) (by decide) rfl (Nat.le_of_ble_eq_true rfl) ?_ sz
  intro p e s m args below meth c A Q hA hQ F E hr hlk htab
  show zW p l e { frames := 8, cells := 1, slots := 6, locals := 124 } s m args below meth c 4 D A Q 0 0 (sysD g a k x o j) [(0, .ref (a 0)), (1, .int v), (2, .int w)] [] 0
  refine z_aload_n F 0 dL_shareIf_0 rfl rfl ?_
  refine z_iload_n F 1 dL_shareIf_1 rfl rfl ?_
  refine z_iload_n F 2 dL_shareIf_2 rfl rfl ?_
  refine z_callXi0 F (z_runVX (st := []) F (zEnv_ok er) E.1.1.1.1 (fun sz => c_X10_shareIfDefault l hl9 D g er a (lMc (kL k)) (lHc (kL k)) (lNe (kL k)) (lLo (kL k)) (kV k) (kE k) (kF k) v w (hm) (hne9) sz) (cwV 2 F.1.2.2.2.2 gL_shareIf_X10_shareIfDefault rfl rfl rfl (by decide +kernel) ⟨Nat.le_of_ble_eq_true rfl, Nat.le_of_ble_eq_true rfl⟩) 0 rfl rfl rfl [] [0, 1] rfl rfl (by decide) rfl rfl (Nat.le_of_ble_eq_true rfl) dL_shareIf_3 ⟨Nat.le_of_ble_eq_true rfl, Nat.le_of_ble_eq_true rfl⟩) ?_ (fun r2 _ hw1 => ?_)
  · intro E9 u9 hx
    obtain ⟨hE9, hne⟩ := hx
    rcases (zc_onPair (lMc (kL k)) v w) with hf | hf | hf
    · exact absurd hf hne
    · rw [hf] at hE9
      subst hE9
      refine z_catchE F htab [] ⟨0, 6, 7, 19⟩ [⟨0, 6, 12, 21⟩, ⟨0, 6, 17, 13⟩] rfl (z_pass0) (by decide) (by decide) (zWd.at E.2.1.1 1 rfl rfl) (zEnv.ca E.1.1.1.1 3 rfl) (pc' := 7) rfl (fun q => ?_)
      refine z_astore_n (lv' := [(3, .ref q), (0, .ref (a 0)), (1, .int v), (2, .int w)]) F dL_shareIf_7 rfl (by decide) rfl ?_
      refine z_sipush (v := (-1001)) F dL_shareIf_8 (by decide) ?_
      refine z_wide (k := 1) (n := 6) (Nat.le_of_ble_eq_true rfl) (Nat.le_of_ble_eq_true rfl) ?_
      exact z_iret F hA hQ hlk hr () (by rw [zIf, if_neg hne, hf] <;> rfl) (rfl) dL_shareIf_11
    · rw [hf] at hE9
      subst hE9
      refine z_catchE F htab [⟨0, 6, 7, 19⟩] ⟨0, 6, 12, 21⟩ [⟨0, 6, 17, 13⟩] rfl ((z_passE F (x := ⟨0, 6, 7, 19⟩) (by decide) (zWd.at E.2.1.1 1 rfl rfl) (zEnv.nc E.1.1.1.1 7 rfl) z_pass0)) (by decide) (by decide) (zWd.at E.2.1.1 2 rfl rfl) (zEnv.ca E.1.1.1.1 1 rfl) (pc' := 12) rfl (fun q => ?_)
      refine z_astore_n (lv' := [(3, .ref q), (0, .ref (a 0)), (1, .int v), (2, .int w)]) F dL_shareIf_12 rfl (by decide) rfl ?_
      refine z_sipush (v := (-1002)) F dL_shareIf_13 (by decide) ?_
      refine z_wide (k := 1) (n := 6) (Nat.le_of_ble_eq_true rfl) (Nat.le_of_ble_eq_true rfl) ?_
      exact z_iret F hA hQ hlk hr () (by rw [zIf, if_neg hne, hf] <;> rfl) (rfl) dL_shareIf_16
  obtain ⟨hc3, hw1⟩ := hw1
  subst hw1
  exact absurd hc3 hne9
set_option maxHeartbeats 4000000 in
set_option maxRecDepth 100000 in
theorem c_L_meanPosition (l : Launch) (D : va_G) (g : Nat → ClassId) (er : Nat → Nat) (dg : Nat → Nat) (ec : Nat → Nat) (fs : Nat → Nat) (fv : Nat → Nat) (qa : Nat) (sw : Nat) (sb : Nat) (sn : Nat) (xs : Nat → Int32) (a : Nat → Nat) (k : zKK) (x : Nat → Int32) (o : zOO) (j : zGG) (hFl : zFl) (hm : lMc (kL k) ≤ 8) (h1 : 1 ≤ lMc (kL k)) (sz : Nat) : Met l yL_meanPosition wsL_meanPosition { frames := 5, cells := 0, slots := 0, locals := 108 } (zPc D (gT g) (zEnvL er D g dg ec fs fv qa sw sb sn xs) [.ref (a 0)] (sysD g a k x o j) [] sz) (zQd D (sysD g a k x o j) (fun (r : UInt64) (_ : Unit) => r = FP.ddiv (FP.i2d (f_absN (lAm (kL k)) (lMc (kL k)))) (FP.i2d (nI (lMc (kL k))))) (fun _ => (sysD g a k x o j)) sz) 0 0 (va_A (sysD g a k x o j) sz) := by
  refine z_metW (y := yL_meanPosition) (hh := [(0, 4, 5, 110)]) (cc := cL_meanPosition) (nL := 2) (rm := { frames := 5, cells := 0, slots := 0, locals := 108 }) (D := D) (tys := gT g) (wr := []) (P0 := zEnvL er D g dg ec fs fv qa sw sb sn xs) (As := [.ref (a 0)]) (ww := (sysD g a k x o j)) (Qc := zQd D (sysD g a k x o j) (fun (r : UInt64) (_ : Unit) => r = FP.ddiv (FP.i2d (f_absN (lAm (kL k)) (lMc (kL k)))) (FP.i2d (nI (lMc (kL k))))) (fun _ => (sysD g a k x o j))) (ret := (some .double)) (by decide) rfl (Nat.le_of_ble_eq_true rfl) ?_ sz
  intro p e s m args below meth c A Q hA hQ F E hr hlk htab
  show zW p l e { frames := 5, cells := 0, slots := 0, locals := 108 } s m args below meth c 2 D A Q 0 0 (sysD g a k x o j) [(0, .ref (a 0))] [] 0
  refine z_aload_n F 0 dL_meanPosition_0 rfl rfl ?_
  refine z_calld0 F (z_runV (st := []) F (zEnv_ok er) E.1.1.1.1 (fun sz => c_X10_meanPosition l D g er a (lAm (kL k)) (lMc (kL k)) (lHc (kL k)) (lNe (kL k)) (lLo (kL k)) (kV k) (kE k) (kF k) (hFl) (hm) (h1) sz) (cwV 0 F.1.2.2.2.2 gL_meanPosition_X10_meanPosition rfl rfl rfl (by decide +kernel) ⟨Nat.le_of_ble_eq_true rfl, Nat.le_of_ble_eq_true rfl⟩) 0 rfl rfl rfl [] [0, 1, 2] rfl rfl (by decide) rfl rfl (Nat.le_of_ble_eq_true rfl) dL_meanPosition_1 ⟨Nat.le_of_ble_eq_true rfl, Nat.le_of_ble_eq_true rfl⟩) (fun r2 _ hw1 => ?_)
  subst hw1
  exact z_dret F hA hQ hlk hr () (rfl) (rfl) dL_meanPosition_4
set_option maxHeartbeats 4000000 in
set_option maxRecDepth 100000 in
theorem c_L_debtShare (l : Launch) (D : va_G) (g : Nat → ClassId) (er : Nat → Nat) (dg : Nat → Nat) (ec : Nat → Nat) (fs : Nat → Nat) (fv : Nat → Nat) (qa : Nat) (sw : Nat) (sb : Nat) (sn : Nat) (xs : Nat → Int32) (a : Nat → Nat) (k : zKK) (x : Nat → Int32) (o : zOO) (j : zGG) (hFl : zFl) (hm : lMc (kL k) ≤ 8) (h2 : 2 ≤ lMc (kL k)) (sz : Nat) : Met l yL_debtShare wsL_debtShare { frames := 2, cells := 0, slots := 0, locals := 43 } (zPc D (gT g) (zEnvL er D g dg ec fs fv qa sw sb sn xs) [.ref (a 0)] (sysD g a k x o j) [] sz) (zQf D (sysD g a k x o j) (fun (r : UInt32) (_ : Unit) => r = FP.fdiv (FP.i2f (f_cnt (lAm (kL k)))) (FP.i2f (nI (lMc (kL k)) * (nI (lMc (kL k)) - 1)))) (fun _ => (sysD g a k x o j)) sz) 0 0 (va_A (sysD g a k x o j) sz) := by
  refine z_metW (y := yL_debtShare) (hh := [(0, 4, 5, 110)]) (cc := cL_debtShare) (nL := 2) (rm := { frames := 2, cells := 0, slots := 0, locals := 43 }) (D := D) (tys := gT g) (wr := []) (P0 := zEnvL er D g dg ec fs fv qa sw sb sn xs) (As := [.ref (a 0)]) (ww := (sysD g a k x o j)) (Qc := zQf D (sysD g a k x o j) (fun (r : UInt32) (_ : Unit) => r = FP.fdiv (FP.i2f (f_cnt (lAm (kL k)))) (FP.i2f (nI (lMc (kL k)) * (nI (lMc (kL k)) - 1)))) (fun _ => (sysD g a k x o j))) (ret := (some .float)) (by decide) rfl (Nat.le_of_ble_eq_true rfl) ?_ sz
  intro p e s m args below meth c A Q hA hQ F E hr hlk htab
  show zW p l e { frames := 2, cells := 0, slots := 0, locals := 43 } s m args below meth c 2 D A Q 0 0 (sysD g a k x o j) [(0, .ref (a 0))] [] 0
  refine z_aload_n F 0 dL_debtShare_0 rfl rfl ?_
  refine z_callf0 F (z_runV (st := []) F (zEnv_ok er) E.1.1.1.1 (fun sz => c_X10_debtShare l D g er a (lAm (kL k)) (lMc (kL k)) (lHc (kL k)) (lNe (kL k)) (lLo (kL k)) (kV k) (kE k) (kF k) (hFl) (hm) (h2) sz) (cwV 0 F.1.2.2.2.2 gL_debtShare_X10_debtShare rfl rfl rfl (by decide +kernel) ⟨Nat.le_of_ble_eq_true rfl, Nat.le_of_ble_eq_true rfl⟩) 0 rfl rfl rfl [] [0, 1, 2] rfl rfl (by decide) rfl rfl (Nat.le_of_ble_eq_true rfl) dL_debtShare_1 ⟨Nat.le_of_ble_eq_true rfl, Nat.le_of_ble_eq_true rfl⟩) (fun r2 _ hw1 => ?_)
  subst hw1
  exact z_fret F hA hQ hlk hr () (rfl) (rfl) dL_debtShare_4
set_option maxHeartbeats 4000000 in
set_option maxRecDepth 100000 in
theorem c_L_errorPosition (l : Launch) (D : va_G) (g : Nat → ClassId) (er : Nat → Nat) (dg : Nat → Nat) (ec : Nat → Nat) (fs : Nat → Nat) (fv : Nat → Nat) (qa : Nat) (sw : Nat) (sb : Nat) (sn : Nat) (xs : Nat → Int32) (a : Nat → Nat) (k : zKK) (x : Nat → Int32) (o : zOO) (j : zGG) (hne : ¬ kE k = -1) (sz : Nat) : Met l yL_errorPosition wsL_errorPosition { frames := 1, cells := 0, slots := 0, locals := 20 } (zPc D (gT g) (zEnvL er D g dg ec fs fv qa sw sb sn xs) [.ref (a 0)] (sysD g a k x o j) [] sz) (zQi D (sysD g a k x o j) (fun (r : Int32) (_ : Unit) => r = kE k) (fun _ => (sysD g a k x o j)) sz) 0 0 (va_A (sysD g a k x o j) sz) := by
  refine z_metW (y := yL_errorPosition) (hh := [(0, 4, 5, 82)]) (cc := cL_errorPosition) (nL := 2) (rm := { frames := 1, cells := 0, slots := 0, locals := 20 }) (D := D) (tys := gT g) (wr := []) (P0 := zEnvL er D g dg ec fs fv qa sw sb sn xs) (As := [.ref (a 0)]) (ww := (sysD g a k x o j)) (Qc := zQi D (sysD g a k x o j) (fun (r : Int32) (_ : Unit) => r = kE k) (fun _ => (sysD g a k x o j))) (ret := (some .int)) (by decide) rfl (Nat.le_of_ble_eq_true rfl) ?_ sz
  intro p e s m args below meth c A Q hA hQ F E hr hlk htab
  show zW p l e { frames := 1, cells := 0, slots := 0, locals := 20 } s m args below meth c 2 D A Q 0 0 (sysD g a k x o j) [(0, .ref (a 0))] [] 0
  refine z_aload_n F 0 dL_errorPosition_0 rfl rfl ?_
  refine z_calli0 F (z_runV (st := []) F zNo_ok trivial (fun sz => c_X10_errorPosition l D g a (kV k) (kE k) (kF k) (hne) sz) (cwV 0 F.1.2.2.2.2 gL_errorPosition_X10_errorPosition rfl rfl rfl (by decide +kernel) ⟨Nat.le_of_ble_eq_true rfl, Nat.le_of_ble_eq_true rfl⟩) 0 rfl rfl rfl [] [0] rfl rfl (by decide) rfl rfl (Nat.le_of_ble_eq_true rfl) dL_errorPosition_1 ⟨Nat.le_of_ble_eq_true rfl, Nat.le_of_ble_eq_true rfl⟩) (fun r2 _ hw1 => ?_)
  subst hw1
  exact z_iret F hA hQ hlk hr () (rfl) (rfl) dL_errorPosition_4
set_option maxHeartbeats 4000000 in
set_option maxRecDepth 100000 in
theorem c_L_failedCommand (l : Launch) (D : va_G) (g : Nat → ClassId) (er : Nat → Nat) (dg : Nat → Nat) (ec : Nat → Nat) (fs : Nat → Nat) (fv : Nat → Nat) (qa : Nat) (sw : Nat) (sb : Nat) (sn : Nat) (xs : Nat → Int32) (a : Nat → Nat) (k : zKK) (x : Nat → Int32) (o : zOO) (j : zGG) (hne : ¬ kF k = -1) (sz : Nat) : Met l yL_failedCommand wsL_failedCommand { frames := 1, cells := 0, slots := 0, locals := 20 } (zPc D (gT g) (zEnvL er D g dg ec fs fv qa sw sb sn xs) [.ref (a 0)] (sysD g a k x o j) [] sz) (zQi D (sysD g a k x o j) (fun (r : Int32) (_ : Unit) => r = kF k) (fun _ => (sysD g a k x o j)) sz) 0 0 (va_A (sysD g a k x o j) sz) := by
  refine z_metW (y := yL_failedCommand) (hh := [(0, 4, 5, 82)]) (cc := cL_failedCommand) (nL := 2) (rm := { frames := 1, cells := 0, slots := 0, locals := 20 }) (D := D) (tys := gT g) (wr := []) (P0 := zEnvL er D g dg ec fs fv qa sw sb sn xs) (As := [.ref (a 0)]) (ww := (sysD g a k x o j)) (Qc := zQi D (sysD g a k x o j) (fun (r : Int32) (_ : Unit) => r = kF k) (fun _ => (sysD g a k x o j))) (ret := (some .int)) (by decide) rfl (Nat.le_of_ble_eq_true rfl) ?_ sz
  intro p e s m args below meth c A Q hA hQ F E hr hlk htab
  show zW p l e { frames := 1, cells := 0, slots := 0, locals := 20 } s m args below meth c 2 D A Q 0 0 (sysD g a k x o j) [(0, .ref (a 0))] [] 0
  refine z_aload_n F 0 dL_failedCommand_0 rfl rfl ?_
  refine z_calli0 F (z_runV (st := []) F zNo_ok trivial (fun sz => c_X10_failedCommand l D g a (kV k) (kE k) (kF k) (hne) sz) (cwV 0 F.1.2.2.2.2 gL_failedCommand_X10_failedCommand rfl rfl rfl (by decide +kernel) ⟨Nat.le_of_ble_eq_true rfl, Nat.le_of_ble_eq_true rfl⟩) 0 rfl rfl rfl [] [0] rfl rfl (by decide) rfl rfl (Nat.le_of_ble_eq_true rfl) dL_failedCommand_1 ⟨Nat.le_of_ble_eq_true rfl, Nat.le_of_ble_eq_true rfl⟩) (fun r2 _ hw1 => ?_)
  subst hw1
  exact z_iret F hA hQ hlk hr () (rfl) (rfl) dL_failedCommand_4
