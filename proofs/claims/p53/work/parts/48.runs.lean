/-! A TEXT FED AND RUN -/
def inK (k : zKK) (i : Nat) : zKK := (kL k, kS k, kH k, kN k, kC k, kV k, kE k, kF k, i)
theorem z_nch (x : Int32) : vp_nar .char (f_ch x) = f_ch x := by
  have h := pk_vc (f_ch x)
  have e : ((f_ch x).toUInt32 % 65536).toInt32 = f_ch x := by
    unfold f_ch
    congr 1
    rw [UInt32.toUInt32_toInt32]
    apply UInt32.toNat_inj.mp
    rw [UInt32.toNat_mod]
    have : ((x &&& 255).toUInt32 % 65536).toNat < 65536 := by
      rw [UInt32.toNat_mod]
      exact Nat.mod_lt _ (by decide)
    exact Nat.mod_eq_of_lt this
  rw [e] at h
  exact h
theorem z_fullN {i : Nat} (h : i < 60) : f_full i = 0 := by
  unfold f_full
  exact if_pos (show nI i < nI 60 from nI_lt h (by decide))
set_option maxHeartbeats 4000000 in
set_option maxRecDepth 100000 in
theorem c_L_runs (l : Launch) (hl9 : l.stackTraces = false) (D : va_G) (g : Nat → ClassId) (er : Nat → Nat) (dg : Nat → Nat) (ec : Nat → Nat) (fs : Nat → Nat) (fv : Nat → Nat) (qa : Nat) (sw : Nat) (sb : Nat) (sn : Nat) (xs : Nat → Int32) (a : Nat → Nat) (k : zKK) (x : Nat → Int32) (o : zOO) (j : zGG) (y0 : Nat) (y1 : Nat) (yh : Int32) (yz : Int32) (yn : Nat) (yb : Nat → Int8) (hm : lMc (kL k) ≤ 8) (hnc : jnc j ≤ 3) (hn : kN k < 8) (hc9 : kC k < 9) (hyn : yn ≤ 60) (sz : Nat) : Met l yL_runs wsL_runs { frames := 9, cells := 61, slots := 366, locals := 201 } (zPc D (gT g) (zEnvL er D g dg ec fs fv qa sw sb sn xs) [.ref (a 0), .ref y0] (sysD g a ((inK k 0)) x o j) [(y0, .inr (0, [.ref y1, .int 0, .int yh, .int yz])), (y1, .inl (g 3, yn, .inl ((zBy yb))))] sz) (zQi D (sysD g a ((inK k 0)) x o j) (fun (r : Int32) (u : zKK × (Nat → Int32) × zGG) => (∀ t, t < yn → u.2.1 t = f_ch (zBy yb t)) ∧ f_runP (inK k yn) u.2.1 j r u.1 u.2.2) (fun (u9 : zKK × (Nat → Int32) × zGG) => (sysD g a u9.1 u9.2.1 o u9.2.2)) sz) 61 366 (va_A (sysD g a ((inK k 0)) x o j) sz) := by
  refine z_met (y := yL_runs) (cc := cL_runs) (nL := 3) (rm := { frames := 9, cells := 61, slots := 366, locals := 201 }) (D := D) (tys := gT g) (wr := [(y0, .inr (0, [.ref y1, .int 0, .int yh, .int yz])), (y1, .inl (g 3, yn, .inl ((zBy yb))))]) (P0 := zEnvL er D g dg ec fs fv qa sw sb sn xs) (As := [.ref (a 0), .ref y0]) (ww := (sysD g a ((inK k 0)) x o j)) (Qc := zQi D (sysD g a ((inK k 0)) x o j) (fun (r : Int32) (u : zKK × (Nat → Int32) × zGG) => (∀ t, t < yn → u.2.1 t = f_ch (zBy yb t)) ∧ f_runP (inK k yn) u.2.1 j r u.1 u.2.2) (fun (u9 : zKK × (Nat → Int32) × zGG) => (sysD g a u9.1 u9.2.1 o u9.2.2))) (ret := (some .int)) (by decide) rfl (Nat.le_of_ble_eq_true rfl) ?_ sz
  intro p e s m args below meth c A Q hA hQ F E hr hlk hin
  have L2 : ∀ (N2_ : Nat) (i : Nat) (x1 : Nat → Int32) (hN2_ : yn - i < N2_) (hi : i ≤ yn) (hx : ∀ t, t < i → x1 t = f_ch (zBy yb t)), zW p l e { frames := 9, cells := 61, slots := 366, locals := 201 } s m args below meth c 3 D A Q i (6 * i) (sysD g a ((inK k i)) x1 o j) [(0, .ref (a 0)), (1, .ref y0), (2, .int (nI i))] [] 2 := by
    intro N2_
    induction N2_ with
    | zero =>
      intro i x1 hN2_
      exact absurd hN2_ (Nat.not_lt_zero _)
    | succ N2_ ih2 =>
      intro i x1 hN2_ hi hx
      refine z_iload_n F 2 dL_runs_2 rfl rfl ?_
      refine z_aload_n F 1 dL_runs_3 rfl rfl ?_
      refine z_calli0 F (z_runV (st := [.int (nI i)]) F ((zJ_ok D g dg)) E.1.1.1.2 (fun sz => c_J0_length_8abf5 l D g dg y0 y1 yh yz yn yb sz) (cwV 0 F.1.2.2.2.2 gL_runs_J0_length_8abf5 rfl rfl rfl (by decide +kernel) ⟨Nat.le_of_ble_eq_true rfl, Nat.le_of_ble_eq_true rfl⟩) 96 rfl rfl rfl [] [96, 97] rfl rfl (by decide) rfl rfl (Nat.le_of_ble_eq_true rfl) dL_runs_4 ⟨by dsimp only; omega, by dsimp only; omega⟩) (fun r2 _ hw1 => ?_)
      subst hw1
      refine z_icmp_ge (tgt := 35) F dL_runs_7 (by decide) (fun c3 => ?_) (fun c3 => ?_)
      · have hii : i = yn := by have := z_ge (by omega) (by omega) c3; omega
        subst hii
        refine z_aload_n F 0 dL_runs_35 rfl rfl ?_
        refine z_sysi (wf := fun u36 => (sysD g a u36.1 x1 o u36.2)) F (z_sysW (X := sysD g a ((inK k i)) x1 o j) (Y := []) (st := []) F ((zEnvL_ok er D g dg ec fs fv qa sw sb sn xs)) E (fun sz => c_L_run l hl9 D g er dg ec fs fv qa sw sb sn xs a ((inK k i)) x1 o j (hm) (hyn) (hnc) (hn) (hc9) sz) (vx_cwSW 1 F.1.2.2.2.2 gL_runs_L_run rfl rfl rfl (by decide +kernel) ⟨Nat.le_of_ble_eq_true rfl, Nat.le_of_ble_eq_true rfl⟩) (List.append_nil _).symm [] rfl rfl (by decide) rfl rfl (Nat.le_of_ble_eq_true rfl) dL_runs_36 ⟨by dsimp only; omega, by dsimp only; omega⟩) (List.append_nil _).symm (fun _ => rfl) (fun _ => List.append_nil _) (fun r36 u36 hw36 => ?_)
        obtain ⟨k36, j36⟩ := u36
        try dsimp only at hw36
        refine z_ws (ws' := (sysD g a k36 x1 o j36)) rfl ?_
        refine z_wide (k := 61) (n := 366) (by first | exact Nat.le_of_ble_eq_true rfl | omega) (by first | exact Nat.le_of_ble_eq_true rfl | omega) ?_
        exact z_iret F hA hQ hlk hr (k36, x1, j36) (⟨hx, hw36⟩) (rfl) dL_runs_39
      · have hii : i < yn := z_lt (by omega) (by omega) c3
        refine z_aload_n F 0 dL_runs_10 rfl rfl ?_
        refine z_aload_n F 1 dL_runs_11 rfl rfl ?_
        refine z_iload_n F 2 dL_runs_12 rfl rfl ?_
        refine z_calli0 F (z_runV (st := [.ref (a 0)]) F ((zJ_ok D g dg)) E.1.1.1.2 (fun sz => c_J0_charAt_5068e l D g dg y0 y1 yh yz yn yb i (hii) (by omega) sz) (cwV 1 F.1.2.2.2.2 gL_runs_J0_charAt_5068e rfl rfl rfl (by decide +kernel) ⟨Nat.le_of_ble_eq_true rfl, Nat.le_of_ble_eq_true rfl⟩) 96 rfl rfl rfl [] [96, 97] rfl rfl (by decide) rfl rfl (Nat.le_of_ble_eq_true rfl) dL_runs_13 ⟨by dsimp only; omega, by dsimp only; omega⟩) (fun r5 _ hw4 => ?_)
        subst hw4
        refine z_sysi (wf := fun u16 => (sysD g a u16.1 u16.2 o j)) F (z_sysW (X := sysD g a ((inK k i)) x1 o j) (Y := []) (st := []) F ((zEnvL_ok er D g dg ec fs fv qa sw sb sn xs)) E (fun sz => c_L_feed l hl9 D g er dg ec fs fv qa sw sb sn xs a ((inK k i)) x1 o j (f_ch (zBy yb i)) ((show i ≤ 60 by omega)) sz) (vx_cwSW 2 F.1.2.2.2.2 gL_runs_L_feed rfl rfl rfl (by decide +kernel) ⟨Nat.le_of_ble_eq_true rfl, Nat.le_of_ble_eq_true rfl⟩) (List.append_nil _).symm [] rfl rfl (by decide) rfl rfl (Nat.le_of_ble_eq_true rfl) dL_runs_16 ⟨by dsimp only; omega, by dsimp only; omega⟩) (List.append_nil _).symm (fun _ => rfl) (fun _ => List.append_nil _) (fun r16 u16 hw16 => ?_)
        obtain ⟨k16, x16⟩ := u16
        try dsimp only at hw16
        refine z_ws (ws' := (sysD g a k16 x16 o j)) rfl ?_
        have hf16 : (if f_full (kI (inK k i)) = 0 then 0 else 3) = 0 := if_pos (z_fullN (show i < 60 by omega))
        obtain ⟨e1, e2, e3⟩ := hw16.1 hf16
        subst e2
        subst e3
        refine z_ws (ws' := (sysD g a ((inK k (i + 1))) ((upd x1 i (vp_nar .char (f_ch (zBy yb i))))) o j)) rfl ?_
        have e4 : r16 = nI (i + 1) := e1
        refine z_iload_n F 2 dL_runs_19 rfl rfl ?_
        refine z_iconst (v := 1) F dL_runs_20 (by decide) ?_
        refine z_iadd F dL_runs_21 ?_
        refine z_icmp_eq (tgt := 29) F dL_runs_22 (by decide) (fun c6 => ?_) (fun c6 => ?_)
        · refine z_iinc (v := nI (i + 1)) (lv' := [(2, .int (nI (i + 1))), (0, .ref (a 0)), (1, .ref y0)]) F dL_runs_29 2 rfl (nI_1 i) (by decide) rfl ?_
          refine z_goto (tgt := 2) F dL_runs_32 (by decide) ?_
          refine z_loc (lv' := [(0, .ref (a 0)), (1, .ref y0), (2, .int (nI (i + 1)))]) [1, 2, 0] rfl ?_
          refine z_wide (k := i + 1) (n := 6 * (i + 1)) (by first | exact Nat.le_of_ble_eq_true rfl | omega) (by first | exact Nat.le_of_ble_eq_true rfl | omega) ?_
          exact ih2 (i + 1) ((upd x1 i (vp_nar .char (f_ch (zBy yb i))))) (by omega) (by omega) (z_up hx (z_nch _))
        · exact absurd (e4.trans (nI_1 i).symm) c6
  show zW p l e { frames := 9, cells := 61, slots := 366, locals := 201 } s m args below meth c 3 D A Q 0 0 (sysD g a ((inK k 0)) x o j) [(0, .ref (a 0)), (1, .ref y0)] [] 0
  refine z_iconst (v := 0) F dL_runs_0 (by decide) ?_
  refine z_istore_n (lv' := [(2, .int 0), (0, .ref (a 0)), (1, .ref y0)]) F dL_runs_1 rfl (by decide) rfl ?_
  refine z_loc (lv' := [(0, .ref (a 0)), (1, .ref y0), (2, .int (nI 0))]) [1, 2, 0] rfl ?_
  refine z_wide (k := 0) (n := 6 * 0) (by first | exact Nat.le_of_ble_eq_true rfl | omega) (by first | exact Nat.le_of_ble_eq_true rfl | omega) ?_
  exact L2 _ 0 x (Nat.lt_succ_self _) (by omega) (fun t h => absurd h (Nat.not_lt_zero t))
set_option maxHeartbeats 4000000 in
set_option maxRecDepth 100000 in
theorem k_L_runs (l : Launch) (hl9 : l.stackTraces = false) (D : va_G) (g : Nat → ClassId) (er : Nat → Nat) (dg : Nat → Nat) (ec : Nat → Nat) (fs : Nat → Nat) (fv : Nat → Nat) (qa : Nat) (sw : Nat) (sb : Nat) (sn : Nat) (xs : Nat → Int32) (a : Nat → Nat) (k : zKK) (x : Nat → Int32) (o : zOO) (j : zGG) (ti : Nat) (hm : lMc (kL k) ≤ 8) (hnc : jnc j ≤ 3) (hn : kN k < 8) (hc9 : kC k < 9) (ht9 : ti < 14) (sz : Nat) : Met l yL_runs wsL_runs { frames := 9, cells := 61, slots := 366, locals := 201 } (zPc D (gT g) (zEnvL er D g dg ec fs fv qa sw sb sn xs) [.ref (a 0), .ref (fs ti)] (sysD g a ((inK k 0)) x o j) [] sz) (zQi D (sysD g a ((inK k 0)) x o j) (fun (r : Int32) (u : zKK × (Nat → Int32) × zGG) => (∀ t, t < (f_fl ti) → u.2.1 t = f_ch (zBy (f_fb ti) t)) ∧ f_runP (inK k (f_fl ti)) u.2.1 j r u.1 u.2.2) (fun (u9 : zKK × (Nat → Int32) × zGG) => (sysD g a u9.1 u9.2.1 o u9.2.2)) sz) 61 366 (va_A (sysD g a ((inK k 0)) x o j) sz) := by
  refine z_met (y := yL_runs) (cc := cL_runs) (nL := 3) (rm := { frames := 9, cells := 61, slots := 366, locals := 201 }) (D := D) (tys := gT g) (wr := []) (P0 := zEnvL er D g dg ec fs fv qa sw sb sn xs) (As := [.ref (a 0), .ref (fs ti)]) (ww := (sysD g a ((inK k 0)) x o j)) (Qc := zQi D (sysD g a ((inK k 0)) x o j) (fun (r : Int32) (u : zKK × (Nat → Int32) × zGG) => (∀ t, t < (f_fl ti) → u.2.1 t = f_ch (zBy (f_fb ti) t)) ∧ f_runP (inK k (f_fl ti)) u.2.1 j r u.1 u.2.2) (fun (u9 : zKK × (Nat → Int32) × zGG) => (sysD g a u9.1 u9.2.1 o u9.2.2))) (ret := (some .int)) (by decide) rfl (Nat.le_of_ble_eq_true rfl) ?_ sz
  intro p e s m args below meth c A Q hA hQ F E hr hlk hin
  have hyn : f_fl ti ≤ 60 := Nat.le_trans (f_fl_le ti) (by decide)
  have L2 : ∀ (N2_ : Nat) (i : Nat) (x1 : Nat → Int32) (hN2_ : (f_fl ti) - i < N2_) (hi : i ≤ (f_fl ti)) (hx : ∀ t, t < i → x1 t = f_ch (zBy (f_fb ti) t)), zW p l e { frames := 9, cells := 61, slots := 366, locals := 201 } s m args below meth c 3 D A Q i (6 * i) (sysD g a ((inK k i)) x1 o j) [(0, .ref (a 0)), (1, .ref (fs ti)), (2, .int (nI i))] [] 2 := by
    intro N2_
    induction N2_ with
    | zero =>
      intro i x1 hN2_
      exact absurd hN2_ (Nat.not_lt_zero _)
    | succ N2_ ih2 =>
      intro i x1 hN2_ hi hx
      refine z_iload_n F 2 dL_runs_2 rfl rfl ?_
      refine z_aload_n F 1 dL_runs_3 rfl rfl ?_
      refine z_calli0 F (z_runVK (st := [.int (nI i)]) F ((zJk_ok D g dg fs fv)) ⟨E.1.1.1.2, E.1.1.2.2.2.2.2⟩ (fun sz => k_J0_length_8abf5 l D g dg fs fv ti (by omega) sz) (cwV 0 F.1.2.2.2.2 gL_runs_J0_length_8abf5 rfl rfl rfl (by decide +kernel) ⟨Nat.le_of_ble_eq_true rfl, Nat.le_of_ble_eq_true rfl⟩) (E.1.1.2.2.2.2.2 ti ht9).1 [] [] rfl rfl (by decide) rfl rfl (Nat.le_of_ble_eq_true rfl) dL_runs_4 ⟨by dsimp only; omega, by dsimp only; omega⟩) (fun r2 _ hw1 => ?_)
      subst hw1
      refine z_icmp_ge (tgt := 35) F dL_runs_7 (by decide) (fun c3 => ?_) (fun c3 => ?_)
      · have hii : i = (f_fl ti) := by have := z_ge (by omega) (by omega) c3; omega
        subst hii
        refine z_aload_n F 0 dL_runs_35 rfl rfl ?_
        refine z_sysi (wf := fun u36 => (sysD g a u36.1 x1 o u36.2)) F (z_sysW (X := sysD g a ((inK k ((f_fl ti)))) x1 o j) (Y := []) (st := []) F ((zEnvL_ok er D g dg ec fs fv qa sw sb sn xs)) E (fun sz => c_L_run l hl9 D g er dg ec fs fv qa sw sb sn xs a ((inK k ((f_fl ti)))) x1 o j (hm) (hyn) (hnc) (hn) (hc9) sz) (vx_cwSW 1 F.1.2.2.2.2 gL_runs_L_run rfl rfl rfl (by decide +kernel) ⟨Nat.le_of_ble_eq_true rfl, Nat.le_of_ble_eq_true rfl⟩) (List.append_nil _).symm [] rfl rfl (by decide) rfl rfl (Nat.le_of_ble_eq_true rfl) dL_runs_36 ⟨by dsimp only; omega, by dsimp only; omega⟩) (List.append_nil _).symm (fun _ => rfl) (fun _ => List.append_nil _) (fun r36 u36 hw36 => ?_)
        obtain ⟨k36, j36⟩ := u36
        try dsimp only at hw36
        refine z_ws (ws' := (sysD g a k36 x1 o j36)) rfl ?_
        refine z_wide (k := 61) (n := 366) (by first | exact Nat.le_of_ble_eq_true rfl | omega) (by first | exact Nat.le_of_ble_eq_true rfl | omega) ?_
        exact z_iret F hA hQ hlk hr (k36, x1, j36) (⟨hx, hw36⟩) (rfl) dL_runs_39
      · have hii : i < (f_fl ti) := z_lt (by omega) (by omega) c3
        refine z_aload_n F 0 dL_runs_10 rfl rfl ?_
        refine z_aload_n F 1 dL_runs_11 rfl rfl ?_
        refine z_iload_n F 2 dL_runs_12 rfl rfl ?_
        refine z_calli0 F (z_runVK (st := [.ref (a 0)]) F ((zJk_ok D g dg fs fv)) ⟨E.1.1.1.2, E.1.1.2.2.2.2.2⟩ (fun sz => k_J0_charAt_5068e l D g dg fs fv ti i (by omega) (hii) sz) (cwV 1 F.1.2.2.2.2 gL_runs_J0_charAt_5068e rfl rfl rfl (by decide +kernel) ⟨Nat.le_of_ble_eq_true rfl, Nat.le_of_ble_eq_true rfl⟩) (E.1.1.2.2.2.2.2 ti ht9).1 [] [] rfl rfl (by decide) rfl rfl (Nat.le_of_ble_eq_true rfl) dL_runs_13 ⟨by dsimp only; omega, by dsimp only; omega⟩) (fun r5 _ hw4 => ?_)
        subst hw4
        refine z_sysi (wf := fun u16 => (sysD g a u16.1 u16.2 o j)) F (z_sysW (X := sysD g a ((inK k i)) x1 o j) (Y := []) (st := []) F ((zEnvL_ok er D g dg ec fs fv qa sw sb sn xs)) E (fun sz => c_L_feed l hl9 D g er dg ec fs fv qa sw sb sn xs a ((inK k i)) x1 o j (f_ch (zBy (f_fb ti) i)) ((show i ≤ 60 by omega)) sz) (vx_cwSW 2 F.1.2.2.2.2 gL_runs_L_feed rfl rfl rfl (by decide +kernel) ⟨Nat.le_of_ble_eq_true rfl, Nat.le_of_ble_eq_true rfl⟩) (List.append_nil _).symm [] rfl rfl (by decide) rfl rfl (Nat.le_of_ble_eq_true rfl) dL_runs_16 ⟨by dsimp only; omega, by dsimp only; omega⟩) (List.append_nil _).symm (fun _ => rfl) (fun _ => List.append_nil _) (fun r16 u16 hw16 => ?_)
        obtain ⟨k16, x16⟩ := u16
        try dsimp only at hw16
        refine z_ws (ws' := (sysD g a k16 x16 o j)) rfl ?_
        have hf16 : (if f_full (kI (inK k i)) = 0 then 0 else 3) = 0 := if_pos (z_fullN (show i < 60 by omega))
        obtain ⟨e1, e2, e3⟩ := hw16.1 hf16
        subst e2
        subst e3
        refine z_ws (ws' := (sysD g a ((inK k (i + 1))) ((upd x1 i (vp_nar .char (f_ch (zBy (f_fb ti) i))))) o j)) rfl ?_
        have e4 : r16 = nI (i + 1) := e1
        refine z_iload_n F 2 dL_runs_19 rfl rfl ?_
        refine z_iconst (v := 1) F dL_runs_20 (by decide) ?_
        refine z_iadd F dL_runs_21 ?_
        refine z_icmp_eq (tgt := 29) F dL_runs_22 (by decide) (fun c6 => ?_) (fun c6 => ?_)
        · refine z_iinc (v := nI (i + 1)) (lv' := [(2, .int (nI (i + 1))), (0, .ref (a 0)), (1, .ref (fs ti))]) F dL_runs_29 2 rfl (nI_1 i) (by decide) rfl ?_
          refine z_goto (tgt := 2) F dL_runs_32 (by decide) ?_
          refine z_loc (lv' := [(0, .ref (a 0)), (1, .ref (fs ti)), (2, .int (nI (i + 1)))]) [1, 2, 0] rfl ?_
          refine z_wide (k := i + 1) (n := 6 * (i + 1)) (by first | exact Nat.le_of_ble_eq_true rfl | omega) (by first | exact Nat.le_of_ble_eq_true rfl | omega) ?_
          exact ih2 (i + 1) ((upd x1 i (vp_nar .char (f_ch (zBy (f_fb ti) i))))) (by omega) (by omega) (z_up hx (z_nch _))
        · exact absurd (e4.trans (nI_1 i).symm) c6
  show zW p l e { frames := 9, cells := 61, slots := 366, locals := 201 } s m args below meth c 3 D A Q 0 0 (sysD g a ((inK k 0)) x o j) [(0, .ref (a 0)), (1, .ref (fs ti))] [] 0
  refine z_iconst (v := 0) F dL_runs_0 (by decide) ?_
  refine z_istore_n (lv' := [(2, .int 0), (0, .ref (a 0)), (1, .ref (fs ti))]) F dL_runs_1 rfl (by decide) rfl ?_
  refine z_loc (lv' := [(0, .ref (a 0)), (1, .ref (fs ti)), (2, .int (nI 0))]) [1, 2, 0] rfl ?_
  refine z_wide (k := 0) (n := 6 * 0) (by first | exact Nat.le_of_ble_eq_true rfl | omega) (by first | exact Nat.le_of_ble_eq_true rfl | omega) ?_
  exact L2 _ 0 x (Nat.lt_succ_self _) (by omega) (fun t h => absurd h (Nat.not_lt_zero t))
