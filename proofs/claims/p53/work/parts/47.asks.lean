/-! WHAT THE LAW ASKS OF AN OBJECT: of the ledger alone -/
def f_chs (T : zTx) (s : Int64) : Nat → Int64 | 0 => s | i + 1 => 31 * f_chs T s i + (f_ch (zBy T.2 i)).toInt64
def f_ask0 (L : zL) : Int64 := 31 * (31 * (31 * (31 * (31 * ((31 * f_d2l (FP.ddiv (FP.i2d (f_absN (lAm L) (lMc L))) (FP.i2d (nI (lMc L)))) + (f_f2i (FP.fdiv (FP.i2f (f_cnt (lAm L))) (FP.i2f (nI (lMc L) * (nI (lMc L) - 1))))).toInt64)) + (nI (lMc L)).toInt64) + (lHc L).toInt64) + (lNe L).toInt64) + (lLo L).toInt64) + (f_tri (f_mat (lAm L))).toInt64
def f_askA (L : zL) (m : Nat) (s : Int64) : Int64 := 31 * (31 * (31 * (31 * (31 * (31 * (31 * s + (zIf (f_onMember (lMc L) (nI m)) ((lCa L) (z_n (nI m))) (fun f => -1001)).toInt64) + (zIf (f_onMember (lMc L) (nI m)) (f_cover (lCa L) (lHc L) (z_n (nI m))) (fun f => -1001)).toInt64) + (zIf (f_onMember (lMc L) (nI m)) ((lLi L) (z_n (nI m))) (fun f => -1001)).toInt64) + (zIf (f_onMember (lMc L) (nI m)) ((lAc L) (z_n (nI m))) (fun f => -1001)).toInt64) + (f_bc (f_follow (f_mat (lAm L)) (z_n (nI m))) - 1).toInt64) + (zIf ((if f_rank (lAm L) (lCo L) (lMc L) (nI m) = -1 then 5 else 0)) (f_rank (lAm L) (lCo L) (lMc L) (nI m)) (fun f => -1001)).toInt64) + (zIf (f_onDf (lMc L) (lAm L) (lCo L) (lCa L) (zBo (lBo L)) (lHc L) (nI m)) (f_loss (lAm L) (lCo L) (lCa L) (lHc L) (z_n (nI m))) (fun f => if f = 1 then -1001 else -1002)).toInt64
def f_askM (L : zL) (m : Nat) (s : Int64) : Int64 := f_chs (f_w (lAm L) (lCo L) (lBo L) (z_n (nI m))) (f_askA L m s) (f_w (lAm L) (lCo L) (lBo L) (z_n (nI m))).1
def f_askN (L : zL) (s : Int64) : Nat → Int64 | 0 => s | m + 1 => f_askM L m (f_askN L s m)
def f_asks (L : zL) : Int64 := 31 * (31 * f_askN L (f_ask0 L) (lMc L) + (zIf ((if f_place (lAm L) = -1 then 5 else 0)) (f_place (lAm L) / 8) (fun f => -1001)).toInt64) + (zIf ((if f_place (lAm L) = -1 then 5 else 0)) (f_place (lAm L) - f_place (lAm L) / 8 * 8) (fun f => -1001)).toInt64
theorem z_och {o : zOO} {T : zTx} {i : Nat} (h1 : oN o = T.1) (hi : i < T.1) (h5 : T.1 ≤ 125) (h6 : ∀ i, i < T.1 → oP o i = T.2 i) : zIf (f_oc (oN o) (nI i)) (f_ch (zBy (oP o) (z_n (nI i)))) (fun f => -1001) = f_ch (zBy T.2 i) := by
  have h2 : f_oc (oN o) (nI i) = 0 := by
    unfold f_oc
    rw [if_neg (nI_pos (by omega)), if_pos (nI_lt (by omega) (by omega))]
  have h3 : z_n (nI i) = i := nI_clamp (by omega)
  rw [zIf, if_pos h2, h3]
  unfold zBy
  rw [h6 i hi]
theorem z_omem {mc m : Nat} (h : m < mc) (hm : mc ≤ 8) : f_onMember mc (nI m) = 0 := by
  unfold f_onMember
  rw [z_hasN h hm]
  rfl
set_option maxHeartbeats 4000000 in
set_option maxRecDepth 100000 in
theorem c_L_asks (l : Launch) (hl9 : l.stackTraces = false) (D : va_G) (g : Nat → ClassId) (er : Nat → Nat) (dg : Nat → Nat) (ec : Nat → Nat) (fs : Nat → Nat) (fv : Nat → Nat) (qa : Nat) (sw : Nat) (sb : Nat) (sn : Nat) (xs : Nat → Int32) (a : Nat → Nat) (k : zKK) (x : Nat → Int32) (o : zOO) (j : zGG) (hFl : zFl) (hm : lMc (kL k) ≤ 8) (h2 : 2 ≤ lMc (kL k)) (hbc : oN o ≤ oC o) (hb3 : oC o ≤ 300) (sz : Nat) : Met l yL_asks wsL_asks { frames := 9, cells := 1540, slots := 118400, locals := 178 } (zPc D (gT g) (zEnvL er D g dg ec fs fv qa sw sb sn xs) [.ref (a 0)] (sysD g a k x o j) [] sz) (zQl D (sysD g a k x o j) (fun (r : Int64) (u : zOO × zGG) => r = f_asks (kL k) ∧ oN u.1 = (f_w (lAm (kL k)) (lCo (kL k)) (lBo (kL k)) (z_n (nI (lMc (kL k) - 1)))).1 ∧ oN u.1 ≤ oC u.1 ∧ oC u.1 ≤ 300 ∧ jnc u.2 = jnc j) (fun (u9 : zOO × zGG) => (sysD g a k x u9.1 u9.2)) sz) 1540 118400 (va_A (sysD g a k x o j) sz) := by
  refine z_met (y := yL_asks) (cc := cL_asks) (nL := 7) (rm := { frames := 9, cells := 1540, slots := 118400, locals := 178 }) (D := D) (tys := gT g) (wr := []) (P0 := zEnvL er D g dg ec fs fv qa sw sb sn xs) (As := [.ref (a 0)]) (ww := (sysD g a k x o j)) (Qc := zQl D (sysD g a k x o j) (fun (r : Int64) (u : zOO × zGG) => r = f_asks (kL k) ∧ oN u.1 = (f_w (lAm (kL k)) (lCo (kL k)) (lBo (kL k)) (z_n (nI (lMc (kL k) - 1)))).1 ∧ oN u.1 ≤ oC u.1 ∧ oC u.1 ≤ 300 ∧ jnc u.2 = jnc j) (fun (u9 : zOO × zGG) => (sysD g a k x u9.1 u9.2))) (ret := (some .long)) (by decide) rfl (Nat.le_of_ble_eq_true rfl) ?_ sz
  intro p e s m args below meth c A Q hA hQ F E hr hlk hin
  have h1 : 1 ≤ lMc (kL k) := by omega
  show zW p l e { frames := 9, cells := 1540, slots := 118400, locals := 178 } s m args below meth c 7 D A Q 0 0 (sysD g a k x o j) [(0, .ref (a 0))] [] 0
  refine z_aload_n F 0 dL_asks_0 rfl rfl ?_
  refine z_calli0 F (z_runV (st := []) F (zEnv_ok er) E.1.1.1.1 (fun sz => c_X10_memberCount l D g er a (lMc (kL k)) (lHc (kL k)) (lNe (kL k)) (lLo (kL k)) (kV k) (kE k) (kF k) (by omega) sz) (cwV 0 F.1.2.2.2.2 gL_asks_X10_memberCount rfl rfl rfl (by decide +kernel) ⟨Nat.le_of_ble_eq_true rfl, Nat.le_of_ble_eq_true rfl⟩) 0 rfl rfl rfl [] [0, 1] rfl rfl (by decide) rfl rfl (Nat.le_of_ble_eq_true rfl) dL_asks_1 ⟨Nat.le_of_ble_eq_true rfl, Nat.le_of_ble_eq_true rfl⟩) (fun r2 _ hw1 => ?_)
  subst hw1
  refine z_istore_n (lv' := [(1, .int (nI (lMc (kL k)))), (0, .ref (a 0))]) F dL_asks_4 rfl (by decide) rfl ?_
  refine z_ldc2 (v := 31) F (List.mem_cons_of_mem _ (List.mem_append_left _ (List.mem_append_left _ (List.mem_append_left _ (List.mem_append_left _ (List.mem_append_left _ (List.mem_append_left _ (List.mem_append_left _ (List.mem_append_left _ (List.mem_append_left _ (List.mem_append_left _ (List.mem_append_left _ (List.mem_append_left _ (List.mem_append_left _ (List.mem_append_left _ (List.mem_of_getElem? (i := 0) rfl)))))))))))))))) dL_asks_5 ?_
  refine z_aload_n F 1 dL_asks_8 rfl rfl ?_
  refine z_sysd (wf := fun _ => (sysD g a k x o j)) F (z_sysW (X := sysD g a k x o j) (Y := []) (st := [.long 31]) F ((zEnvL_ok er D g dg ec fs fv qa sw sb sn xs)) E (fun sz => c_L_meanPosition l D g er dg ec fs fv qa sw sb sn xs a k x o j (by assumption) (by assumption) (by assumption) sz) (vx_cwSW 1 F.1.2.2.2.2 gL_asks_L_meanPosition rfl rfl rfl (by decide +kernel) ⟨Nat.le_of_ble_eq_true rfl, Nat.le_of_ble_eq_true rfl⟩) (List.append_nil _).symm [] rfl rfl (by decide) rfl rfl (Nat.le_of_ble_eq_true rfl) dL_asks_9 ⟨Nat.le_of_ble_eq_true rfl, Nat.le_of_ble_eq_true rfl⟩) (List.append_nil _).symm (fun _ => rfl) (fun _ => List.append_nil _) (fun r9 _ hw9 => ?_)
  refine z_topD hw9 ?_
  refine z_calll0 F (z_runS (st := [.long 31]) F zNo_ok trivial (fun sz => c_Jxe99ae_doubleToLongBits_ccdee l D g (FP.ddiv (FP.i2d (f_absN (lAm (kL k)) (lMc (kL k)))) (FP.i2d (nI (lMc (kL k))))) sz) (va_cwS 1 F.1.2.2.2.2 gL_asks_Jxe99ae_doubleToLongBits_ccdee rfl rfl rfl (by decide +kernel) ⟨Nat.le_of_ble_eq_true rfl, Nat.le_of_ble_eq_true rfl⟩) [] [] rfl rfl (by decide) rfl rfl (Nat.le_of_ble_eq_true rfl) dL_asks_12 ⟨Nat.le_of_ble_eq_true rfl, Nat.le_of_ble_eq_true rfl⟩) (fun r4 _ hw3 => ?_)
  subst hw3
  refine z_lmul F dL_asks_15 ?_
  refine z_aload_n F 1 dL_asks_16 rfl rfl ?_
  refine z_sysf (wf := fun _ => (sysD g a k x o j)) F (z_sysW (X := sysD g a k x o j) (Y := []) (st := [.long (31 * (f_d2l (FP.ddiv (FP.i2d (f_absN (lAm (kL k)) (lMc (kL k)))) (FP.i2d (nI (lMc (kL k)))))))]) F ((zEnvL_ok er D g dg ec fs fv qa sw sb sn xs)) E (fun sz => c_L_debtShare l D g er dg ec fs fv qa sw sb sn xs a k x o j (by assumption) (by assumption) (by assumption) sz) (vx_cwSW 1 F.1.2.2.2.2 gL_asks_L_debtShare rfl rfl rfl (by decide +kernel) ⟨Nat.le_of_ble_eq_true rfl, Nat.le_of_ble_eq_true rfl⟩) (List.append_nil _).symm [] rfl rfl (by decide) rfl rfl (Nat.le_of_ble_eq_true rfl) dL_asks_17 ⟨Nat.le_of_ble_eq_true rfl, Nat.le_of_ble_eq_true rfl⟩) (List.append_nil _).symm (fun _ => rfl) (fun _ => List.append_nil _) (fun r17 _ hw17 => ?_)
  refine z_topF hw17 ?_
  refine z_calli0 F (z_runS (st := [.long (31 * (f_d2l (FP.ddiv (FP.i2d (f_absN (lAm (kL k)) (lMc (kL k)))) (FP.i2d (nI (lMc (kL k)))))))]) F zNo_ok trivial (fun sz => c_Jxf58ca_floatToIntBits_5c35a l D g (FP.fdiv (FP.i2f (f_cnt (lAm (kL k)))) (FP.i2f (nI (lMc (kL k)) * (nI (lMc (kL k)) - 1)))) sz) (va_cwS 1 F.1.2.2.2.2 gL_asks_Jxf58ca_floatToIntBits_5c35a rfl rfl rfl (by decide +kernel) ⟨Nat.le_of_ble_eq_true rfl, Nat.le_of_ble_eq_true rfl⟩) [] [] rfl rfl (by decide) rfl rfl (Nat.le_of_ble_eq_true rfl) dL_asks_20 ⟨Nat.le_of_ble_eq_true rfl, Nat.le_of_ble_eq_true rfl⟩) (fun r6 _ hw5 => ?_)
  subst hw5
  refine z_i2l F dL_asks_23 rfl ?_
  refine z_ladd F dL_asks_24 ?_
  refine z_lstore_n (lv' := [(2, .long ((31 * (f_d2l (FP.ddiv (FP.i2d (f_absN (lAm (kL k)) (lMc (kL k)))) (FP.i2d (nI (lMc (kL k))))))) + ((f_f2i (FP.fdiv (FP.i2f (f_cnt (lAm (kL k)))) (FP.i2f (nI (lMc (kL k)) * (nI (lMc (kL k)) - 1))))).toInt64))), (1, .int (nI (lMc (kL k)))), (0, .ref (a 0))]) F dL_asks_25 rfl (by decide) rfl ?_
  refine z_ldc2 (v := 31) F (List.mem_cons_of_mem _ (List.mem_append_left _ (List.mem_append_left _ (List.mem_append_left _ (List.mem_append_left _ (List.mem_append_left _ (List.mem_append_left _ (List.mem_append_left _ (List.mem_append_left _ (List.mem_append_left _ (List.mem_append_left _ (List.mem_append_left _ (List.mem_append_left _ (List.mem_append_left _ (List.mem_append_left _ (List.mem_of_getElem? (i := 0) rfl)))))))))))))))) dL_asks_26 ?_
  refine z_ldc2 (v := 31) F (List.mem_cons_of_mem _ (List.mem_append_left _ (List.mem_append_left _ (List.mem_append_left _ (List.mem_append_left _ (List.mem_append_left _ (List.mem_append_left _ (List.mem_append_left _ (List.mem_append_left _ (List.mem_append_left _ (List.mem_append_left _ (List.mem_append_left _ (List.mem_append_left _ (List.mem_append_left _ (List.mem_append_left _ (List.mem_of_getElem? (i := 0) rfl)))))))))))))))) dL_asks_29 ?_
  refine z_ldc2 (v := 31) F (List.mem_cons_of_mem _ (List.mem_append_left _ (List.mem_append_left _ (List.mem_append_left _ (List.mem_append_left _ (List.mem_append_left _ (List.mem_append_left _ (List.mem_append_left _ (List.mem_append_left _ (List.mem_append_left _ (List.mem_append_left _ (List.mem_append_left _ (List.mem_append_left _ (List.mem_append_left _ (List.mem_append_left _ (List.mem_of_getElem? (i := 0) rfl)))))))))))))))) dL_asks_32 ?_
  refine z_ldc2 (v := 31) F (List.mem_cons_of_mem _ (List.mem_append_left _ (List.mem_append_left _ (List.mem_append_left _ (List.mem_append_left _ (List.mem_append_left _ (List.mem_append_left _ (List.mem_append_left _ (List.mem_append_left _ (List.mem_append_left _ (List.mem_append_left _ (List.mem_append_left _ (List.mem_append_left _ (List.mem_append_left _ (List.mem_append_left _ (List.mem_of_getElem? (i := 0) rfl)))))))))))))))) dL_asks_35 ?_
  refine z_ldc2 (v := 31) F (List.mem_cons_of_mem _ (List.mem_append_left _ (List.mem_append_left _ (List.mem_append_left _ (List.mem_append_left _ (List.mem_append_left _ (List.mem_append_left _ (List.mem_append_left _ (List.mem_append_left _ (List.mem_append_left _ (List.mem_append_left _ (List.mem_append_left _ (List.mem_append_left _ (List.mem_append_left _ (List.mem_append_left _ (List.mem_of_getElem? (i := 0) rfl)))))))))))))))) dL_asks_38 ?_
  refine z_lload_n F 0 dL_asks_41 rfl rfl ?_
  refine z_lmul F dL_asks_42 ?_
  refine z_iload_n F 1 dL_asks_43 rfl rfl ?_
  refine z_i2l F dL_asks_44 rfl ?_
  refine z_ladd F dL_asks_45 ?_
  refine z_lmul F dL_asks_46 ?_
  refine z_aload_n F 2 dL_asks_47 rfl rfl ?_
  refine z_calli0 F (z_runV (st := [.long (31 * ((31 * ((31 * (f_d2l (FP.ddiv (FP.i2d (f_absN (lAm (kL k)) (lMc (kL k)))) (FP.i2d (nI (lMc (kL k))))))) + ((f_f2i (FP.fdiv (FP.i2f (f_cnt (lAm (kL k)))) (FP.i2f (nI (lMc (kL k)) * (nI (lMc (kL k)) - 1))))).toInt64))) + ((nI (lMc (kL k))).toInt64))), .long 31, .long 31, .long 31]) F (zEnv_ok er) E.1.1.1.1 (fun sz => c_X10_haircut l D g er a (lMc (kL k)) (lHc (kL k)) (lNe (kL k)) (lLo (kL k)) (kV k) (kE k) (kF k) (by omega) sz) (cwV 0 F.1.2.2.2.2 gL_asks_X10_haircut rfl rfl rfl (by decide +kernel) ⟨Nat.le_of_ble_eq_true rfl, Nat.le_of_ble_eq_true rfl⟩) 0 rfl rfl rfl [] [0, 1] rfl rfl (by decide) rfl rfl (Nat.le_of_ble_eq_true rfl) dL_asks_48 ⟨Nat.le_of_ble_eq_true rfl, Nat.le_of_ble_eq_true rfl⟩) (fun r8 _ hw7 => ?_)
  subst hw7
  refine z_i2l F dL_asks_51 rfl ?_
  refine z_ladd F dL_asks_52 ?_
  refine z_lmul F dL_asks_53 ?_
  refine z_aload_n F 2 dL_asks_54 rfl rfl ?_
  refine z_calli0 F (z_runV (st := [.long (31 * ((31 * ((31 * ((31 * (f_d2l (FP.ddiv (FP.i2d (f_absN (lAm (kL k)) (lMc (kL k)))) (FP.i2d (nI (lMc (kL k))))))) + ((f_f2i (FP.fdiv (FP.i2f (f_cnt (lAm (kL k)))) (FP.i2f (nI (lMc (kL k)) * (nI (lMc (kL k)) - 1))))).toInt64))) + ((nI (lMc (kL k))).toInt64))) + ((lHc (kL k)).toInt64))), .long 31, .long 31]) F (zEnv_ok er) E.1.1.1.1 (fun sz => c_X10_nettedAmount l D g er a (lMc (kL k)) (lHc (kL k)) (lNe (kL k)) (lLo (kL k)) (kV k) (kE k) (kF k) (by omega) sz) (cwV 0 F.1.2.2.2.2 gL_asks_X10_nettedAmount rfl rfl rfl (by decide +kernel) ⟨Nat.le_of_ble_eq_true rfl, Nat.le_of_ble_eq_true rfl⟩) 0 rfl rfl rfl [] [0, 1] rfl rfl (by decide) rfl rfl (Nat.le_of_ble_eq_true rfl) dL_asks_55 ⟨Nat.le_of_ble_eq_true rfl, Nat.le_of_ble_eq_true rfl⟩) (fun r10 _ hw9 => ?_)
  subst hw9
  refine z_i2l F dL_asks_58 rfl ?_
  refine z_ladd F dL_asks_59 ?_
  refine z_lmul F dL_asks_60 ?_
  refine z_aload_n F 2 dL_asks_61 rfl rfl ?_
  refine z_calli0 F (z_runV (st := [.long (31 * ((31 * ((31 * ((31 * ((31 * (f_d2l (FP.ddiv (FP.i2d (f_absN (lAm (kL k)) (lMc (kL k)))) (FP.i2d (nI (lMc (kL k))))))) + ((f_f2i (FP.fdiv (FP.i2f (f_cnt (lAm (kL k)))) (FP.i2f (nI (lMc (kL k)) * (nI (lMc (kL k)) - 1))))).toInt64))) + ((nI (lMc (kL k))).toInt64))) + ((lHc (kL k)).toInt64))) + ((lNe (kL k)).toInt64))), .long 31]) F (zEnv_ok er) E.1.1.1.1 (fun sz => c_X10_lostAmount l D g er a (lMc (kL k)) (lHc (kL k)) (lNe (kL k)) (lLo (kL k)) (kV k) (kE k) (kF k) (by omega) sz) (cwV 0 F.1.2.2.2.2 gL_asks_X10_lostAmount rfl rfl rfl (by decide +kernel) ⟨Nat.le_of_ble_eq_true rfl, Nat.le_of_ble_eq_true rfl⟩) 0 rfl rfl rfl [] [0, 1] rfl rfl (by decide) rfl rfl (Nat.le_of_ble_eq_true rfl) dL_asks_62 ⟨Nat.le_of_ble_eq_true rfl, Nat.le_of_ble_eq_true rfl⟩) (fun r12 _ hw11 => ?_)
  subst hw11
  refine z_i2l F dL_asks_65 rfl ?_
  refine z_ladd F dL_asks_66 ?_
  refine z_lmul F dL_asks_67 ?_
  refine z_aload_n F 2 dL_asks_68 rfl rfl ?_
  refine z_sysi (wf := fun j69 => (sysD g a k x o j69)) F (z_sysV (X := sysD g a k x o j) (Y := []) (st := [.long (31 * ((31 * ((31 * ((31 * ((31 * ((31 * (f_d2l (FP.ddiv (FP.i2d (f_absN (lAm (kL k)) (lMc (kL k)))) (FP.i2d (nI (lMc (kL k))))))) + ((f_f2i (FP.fdiv (FP.i2f (f_cnt (lAm (kL k)))) (FP.i2f (nI (lMc (kL k)) * (nI (lMc (kL k)) - 1))))).toInt64))) + ((nI (lMc (kL k))).toInt64))) + ((lHc (kL k)).toInt64))) + ((lNe (kL k)).toInt64))) + ((lLo (kL k)).toInt64)))]) F ((zEnvL_ok er D g dg ec fs fv qa sw sb sn xs)) E (fun sz => c_sys_triangles l D g er dg ec fs fv qa sw sb sn xs a k x o j sz) (cwV 0 F.1.2.2.2.2 gL_asks_X10_triangles rfl rfl rfl (by decide +kernel) ⟨Nat.le_of_ble_eq_true rfl, Nat.le_of_ble_eq_true rfl⟩) 0 rfl rfl rfl (List.append_nil _).symm [] rfl rfl (by decide) rfl rfl (Nat.le_of_ble_eq_true rfl) dL_asks_69 ⟨Nat.le_of_ble_eq_true rfl, Nat.le_of_ble_eq_true rfl⟩) (List.append_nil _).symm (fun _ => rfl) (fun _ => List.append_nil _) (fun r69 j69 hw69 => ?_)
  refine z_top (y := f_tri (f_mat (lAm (kL k)))) (hw69.1) ?_
  refine z_i2l F dL_asks_72 rfl ?_
  refine z_ladd F dL_asks_73 ?_
  refine z_lstore_n (lv' := [(2, .long ((31 * ((31 * ((31 * ((31 * ((31 * ((31 * (f_d2l (FP.ddiv (FP.i2d (f_absN (lAm (kL k)) (lMc (kL k)))) (FP.i2d (nI (lMc (kL k))))))) + ((f_f2i (FP.fdiv (FP.i2f (f_cnt (lAm (kL k)))) (FP.i2f (nI (lMc (kL k)) * (nI (lMc (kL k)) - 1))))).toInt64))) + ((nI (lMc (kL k))).toInt64))) + ((lHc (kL k)).toInt64))) + ((lNe (kL k)).toInt64))) + ((lLo (kL k)).toInt64))) + ((f_tri (f_mat (lAm (kL k)))).toInt64))), (1, .int (nI (lMc (kL k)))), (0, .ref (a 0))]) F dL_asks_74 rfl (by decide) rfl ?_
  refine z_iconst (v := 0) F dL_asks_75 (by decide) ?_
  refine z_istore (lv' := [(4, .int 0), (2, .long ((31 * ((31 * ((31 * ((31 * ((31 * ((31 * (f_d2l (FP.ddiv (FP.i2d (f_absN (lAm (kL k)) (lMc (kL k)))) (FP.i2d (nI (lMc (kL k))))))) + ((f_f2i (FP.fdiv (FP.i2f (f_cnt (lAm (kL k)))) (FP.i2f (nI (lMc (kL k)) * (nI (lMc (kL k)) - 1))))).toInt64))) + ((nI (lMc (kL k))).toInt64))) + ((lHc (kL k)).toInt64))) + ((lNe (kL k)).toInt64))) + ((lLo (kL k)).toInt64))) + ((f_tri (f_mat (lAm (kL k)))).toInt64))), (1, .int (nI (lMc (kL k)))), (0, .ref (a 0))]) F dL_asks_76 (by decide) rfl ?_
  have L78 : ∀ (N78_ : Nat) (ix : Nat) (s1 : Int64) (o1 : zOO) (j1 : zGG) (hN78_ : lMc (kL k) - ix < N78_) (hi : ix ≤ lMc (kL k)) (hv : s1 = f_askN (kL k) (f_ask0 (kL k)) ix) (hbc1 : oN o1 ≤ oC o1) (hb31 : oC o1 ≤ 300) (hw1 : 0 < ix → oN o1 = (f_w (lAm (kL k)) (lCo (kL k)) (lBo (kL k)) (z_n (nI (ix - 1)))).1) (hj1 : jnc j1 = jnc j), zW p l e { frames := 9, cells := 1540, slots := 118400, locals := 178 } s m args below meth c 7 D A Q (192 * ix) (14792 * ix) (sysD g a k x o1 j1) [(0, .ref (a 0)), (1, .int (nI (lMc (kL k)))), (2, .long s1), (4, .int (nI ix))] [] 78 := by
    intro N78_
    induction N78_ with
    | zero =>
      intro ix s1 o1 j1 hN78_
      exact absurd hN78_ (Nat.not_lt_zero _)
    | succ N78_ ih78 =>
      intro ix s1 o1 j1 hN78_ hi hv hbc1 hb31 hw1 hj1
      refine z_iload F 3 dL_asks_78 rfl ?_
      refine z_iload_n F 1 dL_asks_80 rfl rfl ?_
      refine z_icmp_ge (tgt := 216) F dL_asks_81 (by decide) (fun c13 => ?_) (fun c13 => ?_)
      · have hmm : ix = lMc (kL k) := by have := z_ge (by omega) (by omega) c13; omega
        refine z_ldc2 (v := 31) F (List.mem_cons_of_mem _ (List.mem_append_left _ (List.mem_append_left _ (List.mem_append_left _ (List.mem_append_left _ (List.mem_append_left _ (List.mem_append_left _ (List.mem_append_left _ (List.mem_append_left _ (List.mem_append_left _ (List.mem_append_left _ (List.mem_append_left _ (List.mem_append_left _ (List.mem_append_left _ (List.mem_append_left _ (List.mem_of_getElem? (i := 0) rfl)))))))))))))))) dL_asks_216 ?_
        refine z_ldc2 (v := 31) F (List.mem_cons_of_mem _ (List.mem_append_left _ (List.mem_append_left _ (List.mem_append_left _ (List.mem_append_left _ (List.mem_append_left _ (List.mem_append_left _ (List.mem_append_left _ (List.mem_append_left _ (List.mem_append_left _ (List.mem_append_left _ (List.mem_append_left _ (List.mem_append_left _ (List.mem_append_left _ (List.mem_append_left _ (List.mem_of_getElem? (i := 0) rfl)))))))))))))))) dL_asks_219 ?_
        refine z_lload_n F 2 dL_asks_222 rfl rfl ?_
        refine z_lmul F dL_asks_223 ?_
        refine z_aload_n F 0 dL_asks_224 rfl rfl ?_
        refine z_sysi (wf := fun _ => (sysD g a k x o1 j1)) F (z_sysW (X := sysD g a k x o1 j1) (Y := []) (st := [.long (31 * s1), .long 31]) F ((zEnvL_ok er D g dg ec fs fv qa sw sb sn xs)) E (fun sz => c_L_largestDebtor l hl9 D g er dg ec fs fv qa sw sb sn xs a k x o1 j1 (by assumption) sz) (vx_cwSW 1 F.1.2.2.2.2 gL_asks_L_largestDebtor rfl rfl rfl (by decide +kernel) ⟨Nat.le_of_ble_eq_true rfl, Nat.le_of_ble_eq_true rfl⟩) (List.append_nil _).symm [] rfl rfl (by decide) rfl rfl (Nat.le_of_ble_eq_true rfl) dL_asks_225 ⟨by dsimp only; omega, by dsimp only; omega⟩) (List.append_nil _).symm (fun _ => rfl) (fun _ => List.append_nil _) (fun r225 _ hw225 => ?_)
        refine z_top hw225 ?_
        refine z_i2l F dL_asks_228 rfl ?_
        refine z_ladd F dL_asks_229 ?_
        refine z_lmul F dL_asks_230 ?_
        refine z_aload_n F 0 dL_asks_231 rfl rfl ?_
        refine z_sysi (wf := fun _ => (sysD g a k x o1 j1)) F (z_sysW (X := sysD g a k x o1 j1) (Y := []) (st := [.long (31 * ((31 * s1) + ((zIf ((if f_place (lAm (kL k)) = -1 then 5 else 0)) (f_place (lAm (kL k)) / 8) (fun f => -1001)).toInt64)))]) F ((zEnvL_ok er D g dg ec fs fv qa sw sb sn xs)) E (fun sz => c_L_largestCreditor l hl9 D g er dg ec fs fv qa sw sb sn xs a k x o1 j1 (by assumption) sz) (vx_cwSW 1 F.1.2.2.2.2 gL_asks_L_largestCreditor rfl rfl rfl (by decide +kernel) ⟨Nat.le_of_ble_eq_true rfl, Nat.le_of_ble_eq_true rfl⟩) (List.append_nil _).symm [] rfl rfl (by decide) rfl rfl (Nat.le_of_ble_eq_true rfl) dL_asks_232 ⟨by dsimp only; omega, by dsimp only; omega⟩) (List.append_nil _).symm (fun _ => rfl) (fun _ => List.append_nil _) (fun r232 _ hw232 => ?_)
        refine z_top hw232 ?_
        refine z_i2l F dL_asks_235 rfl ?_
        refine z_ladd F dL_asks_236 ?_
        refine z_wide (k := 1540) (n := 118400) (by first | exact Nat.le_of_ble_eq_true rfl | omega) (by first | exact Nat.le_of_ble_eq_true rfl | omega) ?_
        exact z_lret F hA hQ hlk hr (o1, j1) (⟨by rw [hv, hmm]; rfl, by rw [← hmm]; exact hw1 (by omega), hbc1, hb31, hj1⟩) (rfl) dL_asks_237
      · have hmm : ix < lMc (kL k) := z_lt (by omega) (by omega) c13
        have hom := z_omem hmm hm
        refine z_ldc2 (v := 31) F (List.mem_cons_of_mem _ (List.mem_append_left _ (List.mem_append_left _ (List.mem_append_left _ (List.mem_append_left _ (List.mem_append_left _ (List.mem_append_left _ (List.mem_append_left _ (List.mem_append_left _ (List.mem_append_left _ (List.mem_append_left _ (List.mem_append_left _ (List.mem_append_left _ (List.mem_append_left _ (List.mem_append_left _ (List.mem_of_getElem? (i := 0) rfl)))))))))))))))) dL_asks_84 ?_
        refine z_ldc2 (v := 31) F (List.mem_cons_of_mem _ (List.mem_append_left _ (List.mem_append_left _ (List.mem_append_left _ (List.mem_append_left _ (List.mem_append_left _ (List.mem_append_left _ (List.mem_append_left _ (List.mem_append_left _ (List.mem_append_left _ (List.mem_append_left _ (List.mem_append_left _ (List.mem_append_left _ (List.mem_append_left _ (List.mem_append_left _ (List.mem_of_getElem? (i := 0) rfl)))))))))))))))) dL_asks_87 ?_
        refine z_ldc2 (v := 31) F (List.mem_cons_of_mem _ (List.mem_append_left _ (List.mem_append_left _ (List.mem_append_left _ (List.mem_append_left _ (List.mem_append_left _ (List.mem_append_left _ (List.mem_append_left _ (List.mem_append_left _ (List.mem_append_left _ (List.mem_append_left _ (List.mem_append_left _ (List.mem_append_left _ (List.mem_append_left _ (List.mem_append_left _ (List.mem_of_getElem? (i := 0) rfl)))))))))))))))) dL_asks_90 ?_
        refine z_ldc2 (v := 31) F (List.mem_cons_of_mem _ (List.mem_append_left _ (List.mem_append_left _ (List.mem_append_left _ (List.mem_append_left _ (List.mem_append_left _ (List.mem_append_left _ (List.mem_append_left _ (List.mem_append_left _ (List.mem_append_left _ (List.mem_append_left _ (List.mem_append_left _ (List.mem_append_left _ (List.mem_append_left _ (List.mem_append_left _ (List.mem_of_getElem? (i := 0) rfl)))))))))))))))) dL_asks_93 ?_
        refine z_lload_n F 2 dL_asks_96 rfl rfl ?_
        refine z_lmul F dL_asks_97 ?_
        refine z_aload_n F 0 dL_asks_98 rfl rfl ?_
        refine z_iload F 3 dL_asks_99 rfl ?_
        refine z_sysi (wf := fun _ => (sysD g a k x o1 j1)) F (z_sysW (X := sysD g a k x o1 j1) (Y := []) (st := [.long (31 * s1), .long 31, .long 31, .long 31]) F ((zEnvL_ok er D g dg ec fs fv qa sw sb sn xs)) E (fun sz => c_L_collateral l hl9 D g er dg ec fs fv qa sw sb sn xs a k x o1 j1 (nI ix) (by assumption) sz) (vx_cwSW 2 F.1.2.2.2.2 gL_asks_L_collateral rfl rfl rfl (by decide +kernel) ⟨Nat.le_of_ble_eq_true rfl, Nat.le_of_ble_eq_true rfl⟩) (List.append_nil _).symm [] rfl rfl (by decide) rfl rfl (Nat.le_of_ble_eq_true rfl) dL_asks_101 ⟨by dsimp only; omega, by dsimp only; omega⟩) (List.append_nil _).symm (fun _ => rfl) (fun _ => List.append_nil _) (fun r101 _ hw101 => ?_)
        refine z_top hw101 ?_
        refine z_i2l F dL_asks_104 rfl ?_
        refine z_ladd F dL_asks_105 ?_
        refine z_lmul F dL_asks_106 ?_
        refine z_aload_n F 0 dL_asks_107 rfl rfl ?_
        refine z_iload F 3 dL_asks_108 rfl ?_
        refine z_sysi (wf := fun _ => (sysD g a k x o1 j1)) F (z_sysW (X := sysD g a k x o1 j1) (Y := []) (st := [.long (31 * ((31 * s1) + ((zIf (f_onMember (lMc (kL k)) (nI ix)) ((lCa (kL k)) (z_n (nI ix))) (fun f => -1001)).toInt64))), .long 31, .long 31]) F ((zEnvL_ok er D g dg ec fs fv qa sw sb sn xs)) E (fun sz => c_L_cover l hl9 D g er dg ec fs fv qa sw sb sn xs a k x o1 j1 (nI ix) (by assumption) sz) (vx_cwSW 2 F.1.2.2.2.2 gL_asks_L_cover rfl rfl rfl (by decide +kernel) ⟨Nat.le_of_ble_eq_true rfl, Nat.le_of_ble_eq_true rfl⟩) (List.append_nil _).symm [] rfl rfl (by decide) rfl rfl (Nat.le_of_ble_eq_true rfl) dL_asks_110 ⟨by dsimp only; omega, by dsimp only; omega⟩) (List.append_nil _).symm (fun _ => rfl) (fun _ => List.append_nil _) (fun r110 _ hw110 => ?_)
        refine z_top hw110 ?_
        refine z_i2l F dL_asks_113 rfl ?_
        refine z_ladd F dL_asks_114 ?_
        refine z_lmul F dL_asks_115 ?_
        refine z_aload_n F 0 dL_asks_116 rfl rfl ?_
        refine z_iload F 3 dL_asks_117 rfl ?_
        refine z_sysi (wf := fun _ => (sysD g a k x o1 j1)) F (z_sysW (X := sysD g a k x o1 j1) (Y := []) (st := [.long (31 * ((31 * ((31 * s1) + ((zIf (f_onMember (lMc (kL k)) (nI ix)) ((lCa (kL k)) (z_n (nI ix))) (fun f => -1001)).toInt64))) + ((zIf (f_onMember (lMc (kL k)) (nI ix)) (f_cover (lCa (kL k)) (lHc (kL k)) (z_n (nI ix))) (fun f => -1001)).toInt64))), .long 31]) F ((zEnvL_ok er D g dg ec fs fv qa sw sb sn xs)) E (fun sz => c_L_limit l hl9 D g er dg ec fs fv qa sw sb sn xs a k x o1 j1 (nI ix) (by assumption) sz) (vx_cwSW 2 F.1.2.2.2.2 gL_asks_L_limit rfl rfl rfl (by decide +kernel) ⟨Nat.le_of_ble_eq_true rfl, Nat.le_of_ble_eq_true rfl⟩) (List.append_nil _).symm [] rfl rfl (by decide) rfl rfl (Nat.le_of_ble_eq_true rfl) dL_asks_119 ⟨by dsimp only; omega, by dsimp only; omega⟩) (List.append_nil _).symm (fun _ => rfl) (fun _ => List.append_nil _) (fun r119 _ hw119 => ?_)
        refine z_top hw119 ?_
        refine z_i2l F dL_asks_122 rfl ?_
        refine z_ladd F dL_asks_123 ?_
        refine z_lmul F dL_asks_124 ?_
        refine z_aload_n F 0 dL_asks_125 rfl rfl ?_
        refine z_iload F 3 dL_asks_126 rfl ?_
        refine z_sysi (wf := fun _ => (sysD g a k x o1 j1)) F (z_sysW (X := sysD g a k x o1 j1) (Y := []) (st := [.long (31 * ((31 * ((31 * ((31 * s1) + ((zIf (f_onMember (lMc (kL k)) (nI ix)) ((lCa (kL k)) (z_n (nI ix))) (fun f => -1001)).toInt64))) + ((zIf (f_onMember (lMc (kL k)) (nI ix)) (f_cover (lCa (kL k)) (lHc (kL k)) (z_n (nI ix))) (fun f => -1001)).toInt64))) + ((zIf (f_onMember (lMc (kL k)) (nI ix)) ((lLi (kL k)) (z_n (nI ix))) (fun f => -1001)).toInt64)))]) F ((zEnvL_ok er D g dg ec fs fv qa sw sb sn xs)) E (fun sz => c_L_byAccount l hl9 D g er dg ec fs fv qa sw sb sn xs a k x o1 j1 (nI ix) (by assumption) sz) (vx_cwSW 2 F.1.2.2.2.2 gL_asks_L_byAccount rfl rfl rfl (by decide +kernel) ⟨Nat.le_of_ble_eq_true rfl, Nat.le_of_ble_eq_true rfl⟩) (List.append_nil _).symm [] rfl rfl (by decide) rfl rfl (Nat.le_of_ble_eq_true rfl) dL_asks_128 ⟨by dsimp only; omega, by dsimp only; omega⟩) (List.append_nil _).symm (fun _ => rfl) (fun _ => List.append_nil _) (fun r128 _ hw128 => ?_)
        refine z_top hw128 ?_
        refine z_i2l F dL_asks_131 rfl ?_
        refine z_ladd F dL_asks_132 ?_
        refine z_lstore_n (lv' := [(2, .long ((31 * ((31 * ((31 * ((31 * s1) + ((zIf (f_onMember (lMc (kL k)) (nI ix)) ((lCa (kL k)) (z_n (nI ix))) (fun f => -1001)).toInt64))) + ((zIf (f_onMember (lMc (kL k)) (nI ix)) (f_cover (lCa (kL k)) (lHc (kL k)) (z_n (nI ix))) (fun f => -1001)).toInt64))) + ((zIf (f_onMember (lMc (kL k)) (nI ix)) ((lLi (kL k)) (z_n (nI ix))) (fun f => -1001)).toInt64))) + ((zIf (f_onMember (lMc (kL k)) (nI ix)) ((lAc (kL k)) (z_n (nI ix))) (fun f => -1001)).toInt64))), (0, .ref (a 0)), (1, .int (nI (lMc (kL k)))), (4, .int (nI ix))]) F dL_asks_133 rfl (by decide) rfl ?_
        refine z_ldc2 (v := 31) F (List.mem_cons_of_mem _ (List.mem_append_left _ (List.mem_append_left _ (List.mem_append_left _ (List.mem_append_left _ (List.mem_append_left _ (List.mem_append_left _ (List.mem_append_left _ (List.mem_append_left _ (List.mem_append_left _ (List.mem_append_left _ (List.mem_append_left _ (List.mem_append_left _ (List.mem_append_left _ (List.mem_append_left _ (List.mem_of_getElem? (i := 0) rfl)))))))))))))))) dL_asks_134 ?_
        refine z_ldc2 (v := 31) F (List.mem_cons_of_mem _ (List.mem_append_left _ (List.mem_append_left _ (List.mem_append_left _ (List.mem_append_left _ (List.mem_append_left _ (List.mem_append_left _ (List.mem_append_left _ (List.mem_append_left _ (List.mem_append_left _ (List.mem_append_left _ (List.mem_append_left _ (List.mem_append_left _ (List.mem_append_left _ (List.mem_append_left _ (List.mem_of_getElem? (i := 0) rfl)))))))))))))))) dL_asks_137 ?_
        refine z_ldc2 (v := 31) F (List.mem_cons_of_mem _ (List.mem_append_left _ (List.mem_append_left _ (List.mem_append_left _ (List.mem_append_left _ (List.mem_append_left _ (List.mem_append_left _ (List.mem_append_left _ (List.mem_append_left _ (List.mem_append_left _ (List.mem_append_left _ (List.mem_append_left _ (List.mem_append_left _ (List.mem_append_left _ (List.mem_append_left _ (List.mem_of_getElem? (i := 0) rfl)))))))))))))))) dL_asks_140 ?_
        refine z_lload_n F 0 dL_asks_143 rfl rfl ?_
        refine z_lmul F dL_asks_144 ?_
        refine z_aload_n F 1 dL_asks_145 rfl rfl ?_
        refine z_iload F 3 dL_asks_146 rfl ?_
        refine z_sysi (wf := fun j148 => (sysD g a k x o1 j148)) F (z_sysW (X := sysD g a k x o1 j1) (Y := []) (st := [.long (31 * ((31 * ((31 * ((31 * ((31 * s1) + ((zIf (f_onMember (lMc (kL k)) (nI ix)) ((lCa (kL k)) (z_n (nI ix))) (fun f => -1001)).toInt64))) + ((zIf (f_onMember (lMc (kL k)) (nI ix)) (f_cover (lCa (kL k)) (lHc (kL k)) (z_n (nI ix))) (fun f => -1001)).toInt64))) + ((zIf (f_onMember (lMc (kL k)) (nI ix)) ((lLi (kL k)) (z_n (nI ix))) (fun f => -1001)).toInt64))) + ((zIf (f_onMember (lMc (kL k)) (nI ix)) ((lAc (kL k)) (z_n (nI ix))) (fun f => -1001)).toInt64))), .long 31, .long 31]) F ((zEnvL_ok er D g dg ec fs fv qa sw sb sn xs)) E (fun sz => c_L_reachCount l hl9 D g er dg ec fs fv qa sw sb sn xs a k x o1 j1 (nI ix) (by assumption) sz) (vx_cwSW 2 F.1.2.2.2.2 gL_asks_L_reachCount rfl rfl rfl (by decide +kernel) ⟨Nat.le_of_ble_eq_true rfl, Nat.le_of_ble_eq_true rfl⟩) (List.append_nil _).symm [] rfl rfl (by decide) rfl rfl (Nat.le_of_ble_eq_true rfl) dL_asks_148 ⟨by dsimp only; omega, by dsimp only; omega⟩) (List.append_nil _).symm (fun _ => rfl) (fun _ => List.append_nil _) (fun r148 j148 hw148 => ?_)
        refine z_top (y := f_bc (f_follow (f_mat (lAm (kL k))) (z_n (nI ix))) - 1) ((hw148.1 hom).1) ?_
        refine z_i2l F dL_asks_151 rfl ?_
        refine z_ladd F dL_asks_152 ?_
        refine z_lmul F dL_asks_153 ?_
        refine z_aload_n F 1 dL_asks_154 rfl rfl ?_
        refine z_iload F 3 dL_asks_155 rfl ?_
        refine z_sysi (wf := fun _ => (sysD g a k x o1 j148)) F (z_sysW (X := sysD g a k x o1 j148) (Y := []) (st := [.long (31 * ((31 * ((31 * ((31 * ((31 * ((31 * s1) + ((zIf (f_onMember (lMc (kL k)) (nI ix)) ((lCa (kL k)) (z_n (nI ix))) (fun f => -1001)).toInt64))) + ((zIf (f_onMember (lMc (kL k)) (nI ix)) (f_cover (lCa (kL k)) (lHc (kL k)) (z_n (nI ix))) (fun f => -1001)).toInt64))) + ((zIf (f_onMember (lMc (kL k)) (nI ix)) ((lLi (kL k)) (z_n (nI ix))) (fun f => -1001)).toInt64))) + ((zIf (f_onMember (lMc (kL k)) (nI ix)) ((lAc (kL k)) (z_n (nI ix))) (fun f => -1001)).toInt64))) + ((f_bc (f_follow (f_mat (lAm (kL k))) (z_n (nI ix))) - 1).toInt64))), .long 31]) F ((zEnvL_ok er D g dg ec fs fv qa sw sb sn xs)) E (fun sz => c_L_byPosition l hl9 D g er dg ec fs fv qa sw sb sn xs a k x o1 j148 (nI ix) (by assumption) sz) (vx_cwSW 2 F.1.2.2.2.2 gL_asks_L_byPosition rfl rfl rfl (by decide +kernel) ⟨Nat.le_of_ble_eq_true rfl, Nat.le_of_ble_eq_true rfl⟩) (List.append_nil _).symm [] rfl rfl (by decide) rfl rfl (Nat.le_of_ble_eq_true rfl) dL_asks_157 ⟨by dsimp only; omega, by dsimp only; omega⟩) (List.append_nil _).symm (fun _ => rfl) (fun _ => List.append_nil _) (fun r157 _ hw157 => ?_)
        refine z_top hw157 ?_
        refine z_i2l F dL_asks_160 rfl ?_
        refine z_ladd F dL_asks_161 ?_
        refine z_lmul F dL_asks_162 ?_
        refine z_aload_n F 1 dL_asks_163 rfl rfl ?_
        refine z_iload F 3 dL_asks_164 rfl ?_
        refine z_sysi (wf := fun _ => (sysD g a k x o1 j148)) F (z_sysW (X := sysD g a k x o1 j148) (Y := []) (st := [.long (31 * ((31 * ((31 * ((31 * ((31 * ((31 * ((31 * s1) + ((zIf (f_onMember (lMc (kL k)) (nI ix)) ((lCa (kL k)) (z_n (nI ix))) (fun f => -1001)).toInt64))) + ((zIf (f_onMember (lMc (kL k)) (nI ix)) (f_cover (lCa (kL k)) (lHc (kL k)) (z_n (nI ix))) (fun f => -1001)).toInt64))) + ((zIf (f_onMember (lMc (kL k)) (nI ix)) ((lLi (kL k)) (z_n (nI ix))) (fun f => -1001)).toInt64))) + ((zIf (f_onMember (lMc (kL k)) (nI ix)) ((lAc (kL k)) (z_n (nI ix))) (fun f => -1001)).toInt64))) + ((f_bc (f_follow (f_mat (lAm (kL k))) (z_n (nI ix))) - 1).toInt64))) + ((zIf ((if f_rank (lAm (kL k)) (lCo (kL k)) (lMc (kL k)) (nI ix) = -1 then 5 else 0)) (f_rank (lAm (kL k)) (lCo (kL k)) (lMc (kL k)) (nI ix)) (fun f => -1001)).toInt64)))]) F ((zEnvL_ok er D g dg ec fs fv qa sw sb sn xs)) E (fun sz => c_L_lossIf l hl9 D g er dg ec fs fv qa sw sb sn xs a k x o1 j148 (nI ix) (by assumption) sz) (vx_cwSW 2 F.1.2.2.2.2 gL_asks_L_lossIf rfl rfl rfl (by decide +kernel) ⟨Nat.le_of_ble_eq_true rfl, Nat.le_of_ble_eq_true rfl⟩) (List.append_nil _).symm [] rfl rfl (by decide) rfl rfl (Nat.le_of_ble_eq_true rfl) dL_asks_166 ⟨by dsimp only; omega, by dsimp only; omega⟩) (List.append_nil _).symm (fun _ => rfl) (fun _ => List.append_nil _) (fun r166 _ hw166 => ?_)
        refine z_top hw166 ?_
        refine z_i2l F dL_asks_169 rfl ?_
        refine z_ladd F dL_asks_170 ?_
        obtain ⟨s3, hs3⟩ : ∃ z9 : Int64, z9 = (31 * ((31 * ((31 * ((31 * ((31 * ((31 * ((31 * s1) + ((zIf (f_onMember (lMc (kL k)) (nI ix)) ((lCa (kL k)) (z_n (nI ix))) (fun f => -1001)).toInt64))) + ((zIf (f_onMember (lMc (kL k)) (nI ix)) (f_cover (lCa (kL k)) (lHc (kL k)) (z_n (nI ix))) (fun f => -1001)).toInt64))) + ((zIf (f_onMember (lMc (kL k)) (nI ix)) ((lLi (kL k)) (z_n (nI ix))) (fun f => -1001)).toInt64))) + ((zIf (f_onMember (lMc (kL k)) (nI ix)) ((lAc (kL k)) (z_n (nI ix))) (fun f => -1001)).toInt64))) + ((f_bc (f_follow (f_mat (lAm (kL k))) (z_n (nI ix))) - 1).toInt64))) + ((zIf ((if f_rank (lAm (kL k)) (lCo (kL k)) (lMc (kL k)) (nI ix) = -1 then 5 else 0)) (f_rank (lAm (kL k)) (lCo (kL k)) (lMc (kL k)) (nI ix)) (fun f => -1001)).toInt64))) + ((zIf (f_onDf (lMc (kL k)) (lAm (kL k)) (lCo (kL k)) (lCa (kL k)) (zBo (lBo (kL k))) (lHc (kL k)) (nI ix)) (f_loss (lAm (kL k)) (lCo (kL k)) (lCa (kL k)) (lHc (kL k)) (z_n (nI ix))) (fun f => if f = 1 then -1001 else -1002)).toInt64) := ⟨_, rfl⟩
        refine z_topL hs3.symm ?_
        refine z_lstore_n (lv' := [(2, .long s3), (0, .ref (a 0)), (1, .int (nI (lMc (kL k)))), (4, .int (nI ix))]) F dL_asks_171 rfl (by decide) rfl ?_
        refine z_aload_n F 1 dL_asks_172 rfl rfl ?_
        refine z_iload F 3 dL_asks_173 rfl ?_
        refine z_sysi (wf := fun o175 => (sysD g a k x o175 j148)) F (z_sysW (X := sysD g a k x o1 j148) (Y := []) (st := []) F ((zEnvL_ok er D g dg ec fs fv qa sw sb sn xs)) E (fun sz => c_L_writeDebts l hl9 D g er dg ec fs fv qa sw sb sn xs a k x o1 j148 (nI ix) (by assumption) (hbc1) (hb31) sz) (vx_cwSW 2 F.1.2.2.2.2 gL_asks_L_writeDebts rfl rfl rfl (by decide +kernel) ⟨Nat.le_of_ble_eq_true rfl, Nat.le_of_ble_eq_true rfl⟩) (List.append_nil _).symm [] rfl rfl (by decide) rfl rfl (Nat.le_of_ble_eq_true rfl) dL_asks_175 ⟨by dsimp only; omega, by dsimp only; omega⟩) (List.append_nil _).symm (fun _ => rfl) (fun _ => List.append_nil _) (fun r175 o175 hw175 => ?_)
        obtain ⟨hq1, hq2, hq3, hq4, hq5, hq6⟩ := hw175.1 hom
        refine z_top (y := nI (f_w (lAm (kL k)) (lCo (kL k)) (lBo (kL k)) (z_n (nI ix))).1) (hq1) ?_
        refine z_istore (lv' := [(5, .int (nI (f_w (lAm (kL k)) (lCo (kL k)) (lBo (kL k)) (z_n (nI ix))).1)), (2, .long s3), (0, .ref (a 0)), (1, .int (nI (lMc (kL k)))), (4, .int (nI ix))]) F dL_asks_178 (by decide) rfl ?_
        refine z_iconst (v := 0) F dL_asks_180 (by decide) ?_
        refine z_istore (lv' := [(6, .int 0), (5, .int (nI (f_w (lAm (kL k)) (lCo (kL k)) (lBo (kL k)) (z_n (nI ix))).1)), (2, .long s3), (0, .ref (a 0)), (1, .int (nI (lMc (kL k)))), (4, .int (nI ix))]) F dL_asks_181 (by decide) rfl ?_
        have L183 : ∀ (N183_ : Nat) (jx : Nat) (s2 : Int64) (hN183_ : (f_w (lAm (kL k)) (lCo (kL k)) (lBo (kL k)) (z_n (nI ix))).1 - jx < N183_) (hi2 : jx ≤ (f_w (lAm (kL k)) (lCo (kL k)) (lBo (kL k)) (z_n (nI ix))).1) (hv2 : s2 = f_chs (f_w (lAm (kL k)) (lCo (kL k)) (lBo (kL k)) (z_n (nI ix))) s3 jx), zW p l e { frames := 9, cells := 1540, slots := 118400, locals := 178 } s m args below meth c 7 D A Q (192 * ix + 67 + jx) (14792 * ix + 14042 + 6 * jx) (sysD g a k x o175 j148) [(0, .ref (a 0)), (1, .int (nI (lMc (kL k)))), (2, .long s2), (4, .int (nI ix)), (5, .int (nI (f_w (lAm (kL k)) (lCo (kL k)) (lBo (kL k)) (z_n (nI ix))).1)), (6, .int (nI jx))] [] 183 := by
          intro N183_
          induction N183_ with
          | zero =>
            intro jx s2 hN183_
            exact absurd hN183_ (Nat.not_lt_zero _)
          | succ N183_ ih183 =>
            intro jx s2 hN183_ hi2 hv2
            refine z_iload F 5 dL_asks_183 rfl ?_
            refine z_iload F 4 dL_asks_185 rfl ?_
            refine z_icmp_ge (tgt := 210) F dL_asks_187 (by decide) (fun c14 => ?_) (fun c14 => ?_)
            · have hii : jx = (f_w (lAm (kL k)) (lCo (kL k)) (lBo (kL k)) (z_n (nI ix))).1 := by have := z_ge (by omega) (by omega) c14; omega
              refine z_iinc (v := nI (ix + 1)) (lv' := [(4, .int (nI (ix + 1))), (0, .ref (a 0)), (1, .int (nI (lMc (kL k)))), (2, .long s2), (5, .int (nI (f_w (lAm (kL k)) (lCo (kL k)) (lBo (kL k)) (z_n (nI ix))).1)), (6, .int (nI jx))]) F dL_asks_210 3 rfl (nI_1 ix) (by decide) rfl ?_
              refine z_goto (tgt := 78) F dL_asks_213 (by decide) ?_
              refine z_loc (lv' := [(0, .ref (a 0)), (1, .int (nI (lMc (kL k)))), (2, .long s2), (4, .int (nI (ix + 1)))]) [1, 2, 3, 0] rfl ?_
              refine z_wide (k := 192 * (ix + 1)) (n := 14792 * (ix + 1)) (by first | exact Nat.le_of_ble_eq_true rfl | omega) (by first | exact Nat.le_of_ble_eq_true rfl | omega) ?_
              exact ih78 (ix + 1) s2 o175 j148 (by omega) (by omega) (by rw [hv2, hii, hs3, hv]; rfl) hq4 hq5 (fun _ => by rw [Nat.add_sub_cancel]; exact hq2) ((hw148.1 hom).2.trans hj1)
            · have hii : jx < (f_w (lAm (kL k)) (lCo (kL k)) (lBo (kL k)) (z_n (nI ix))).1 := z_lt (by omega) (by omega) c14
              refine z_ldc2 (v := 31) F (List.mem_cons_of_mem _ (List.mem_append_left _ (List.mem_append_left _ (List.mem_append_left _ (List.mem_append_left _ (List.mem_append_left _ (List.mem_append_left _ (List.mem_append_left _ (List.mem_append_left _ (List.mem_append_left _ (List.mem_append_left _ (List.mem_append_left _ (List.mem_append_left _ (List.mem_append_left _ (List.mem_append_left _ (List.mem_of_getElem? (i := 0) rfl)))))))))))))))) dL_asks_190 ?_
              refine z_lload_n F 2 dL_asks_193 rfl rfl ?_
              refine z_lmul F dL_asks_194 ?_
              refine z_aload_n F 0 dL_asks_195 rfl rfl ?_
              refine z_iload F 5 dL_asks_196 rfl ?_
              refine z_sysi (wf := fun _ => (sysD g a k x o175 j148)) F (z_sysW (X := sysD g a k x o175 j148) (Y := []) (st := [.long (31 * s2)]) F ((zEnvL_ok er D g dg ec fs fv qa sw sb sn xs)) E (fun sz => c_L_outputChar l hl9 D g er dg ec fs fv qa sw sb sn xs a k x o175 j148 (nI jx) (by assumption) (by assumption) sz) (vx_cwSW 2 F.1.2.2.2.2 gL_asks_L_outputChar rfl rfl rfl (by decide +kernel) ⟨Nat.le_of_ble_eq_true rfl, Nat.le_of_ble_eq_true rfl⟩) (List.append_nil _).symm [] rfl rfl (by decide) rfl rfl (Nat.le_of_ble_eq_true rfl) dL_asks_198 ⟨by dsimp only; omega, by dsimp only; omega⟩) (List.append_nil _).symm (fun _ => rfl) (fun _ => List.append_nil _) (fun r198 _ hw198 => ?_)
              refine z_top hw198 ?_
              refine z_top (y := f_ch (zBy (f_w (lAm (kL k)) (lCo (kL k)) (lBo (kL k)) (z_n (nI ix))).2 jx)) (z_och hq2 hii hq3 hq6) ?_
              refine z_i2l F dL_asks_201 rfl ?_
              refine z_ladd F dL_asks_202 ?_
              refine z_lstore_n (lv' := [(2, .long ((31 * s2) + ((f_ch (zBy (f_w (lAm (kL k)) (lCo (kL k)) (lBo (kL k)) (z_n (nI ix))).2 jx)).toInt64))), (0, .ref (a 0)), (1, .int (nI (lMc (kL k)))), (4, .int (nI ix)), (5, .int (nI (f_w (lAm (kL k)) (lCo (kL k)) (lBo (kL k)) (z_n (nI ix))).1)), (6, .int (nI jx))]) F dL_asks_203 rfl (by decide) rfl ?_
              refine z_iinc (v := nI (jx + 1)) (lv' := [(6, .int (nI (jx + 1))), (2, .long ((31 * s2) + ((f_ch (zBy (f_w (lAm (kL k)) (lCo (kL k)) (lBo (kL k)) (z_n (nI ix))).2 jx)).toInt64))), (0, .ref (a 0)), (1, .int (nI (lMc (kL k)))), (4, .int (nI ix)), (5, .int (nI (f_w (lAm (kL k)) (lCo (kL k)) (lBo (kL k)) (z_n (nI ix))).1))]) F dL_asks_204 5 rfl (nI_1 jx) (by decide) rfl ?_
              refine z_goto (tgt := 183) F dL_asks_207 (by decide) ?_
              refine z_loc (lv' := [(0, .ref (a 0)), (1, .int (nI (lMc (kL k)))), (2, .long ((31 * s2) + ((f_ch (zBy (f_w (lAm (kL k)) (lCo (kL k)) (lBo (kL k)) (z_n (nI ix))).2 jx)).toInt64))), (4, .int (nI ix)), (5, .int (nI (f_w (lAm (kL k)) (lCo (kL k)) (lBo (kL k)) (z_n (nI ix))).1)), (6, .int (nI (jx + 1)))]) [2, 3, 1, 4, 5, 0] rfl ?_
              refine z_wide (k := 192 * ix + 67 + (jx + 1)) (n := 14792 * ix + 14042 + 6 * (jx + 1)) (by first | exact Nat.le_of_ble_eq_true rfl | omega) (by first | exact Nat.le_of_ble_eq_true rfl | omega) ?_
              exact ih183 (jx + 1) ((31 * s2) + ((f_ch (zBy (f_w (lAm (kL k)) (lCo (kL k)) (lBo (kL k)) (z_n (nI ix))).2 jx)).toInt64)) (by omega) (by omega) (by rw [hv2]; rfl)
        refine z_loc (lv' := [(0, .ref (a 0)), (1, .int (nI (lMc (kL k)))), (2, .long s3), (4, .int (nI ix)), (5, .int (nI (f_w (lAm (kL k)) (lCo (kL k)) (lBo (kL k)) (z_n (nI ix))).1)), (6, .int (nI 0))]) [3, 4, 2, 5, 1, 0] rfl ?_
        refine z_wide (k := 192 * ix + 67 + 0) (n := 14792 * ix + 14042 + 6 * 0) (by first | exact Nat.le_of_ble_eq_true rfl | omega) (by first | exact Nat.le_of_ble_eq_true rfl | omega) ?_
        exact L183 _ 0 s3 (Nat.lt_succ_self _) (by omega) rfl
  refine z_loc (lv' := [(0, .ref (a 0)), (1, .int (nI (lMc (kL k)))), (2, .long ((31 * ((31 * ((31 * ((31 * ((31 * ((31 * (f_d2l (FP.ddiv (FP.i2d (f_absN (lAm (kL k)) (lMc (kL k)))) (FP.i2d (nI (lMc (kL k))))))) + ((f_f2i (FP.fdiv (FP.i2f (f_cnt (lAm (kL k)))) (FP.i2f (nI (lMc (kL k)) * (nI (lMc (kL k)) - 1))))).toInt64))) + ((nI (lMc (kL k))).toInt64))) + ((lHc (kL k)).toInt64))) + ((lNe (kL k)).toInt64))) + ((lLo (kL k)).toInt64))) + ((f_tri (f_mat (lAm (kL k)))).toInt64))), (4, .int (nI 0))]) [3, 2, 1, 0] rfl ?_
  refine z_wide (k := 192 * 0) (n := 14792 * 0) (by first | exact Nat.le_of_ble_eq_true rfl | omega) (by first | exact Nat.le_of_ble_eq_true rfl | omega) ?_
  exact L78 _ 0 ((31 * ((31 * ((31 * ((31 * ((31 * ((31 * (f_d2l (FP.ddiv (FP.i2d (f_absN (lAm (kL k)) (lMc (kL k)))) (FP.i2d (nI (lMc (kL k))))))) + ((f_f2i (FP.fdiv (FP.i2f (f_cnt (lAm (kL k)))) (FP.i2f (nI (lMc (kL k)) * (nI (lMc (kL k)) - 1))))).toInt64))) + ((nI (lMc (kL k))).toInt64))) + ((lHc (kL k)).toInt64))) + ((lNe (kL k)).toInt64))) + ((lLo (kL k)).toInt64))) + ((f_tri (f_mat (lAm (kL k)))).toInt64)) o j69 (Nat.lt_succ_self _) (by omega) (by rfl) hbc hb3 (fun h => absurd h (Nat.lt_irrefl 0)) hw69.2
