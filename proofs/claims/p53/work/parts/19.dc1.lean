/-! DEBTCLEARING -/
theorem f_onMember_lt (mc : Nat) (v : Int32) : f_onMember mc v < 5 := by unfold f_onMember; split <;> omega
theorem f_onJoin_lt (mc : Nat) : f_onJoin mc < 5 := by unfold f_onJoin; split <;> omega
theorem f_onDebt_lt (mc : Nat) (am li de : Nat → Int32) (v w u : Int32) : f_onDebt mc am li de v w u < 5 := by
  have := f_onPA_lt mc v w u
  unfold f_onDebt; split <;> (try split) <;> (try split) <;> omega
theorem f_onPay_lt (mc : Nat) (am co : Nat → Int32) (v w u : Int32) : f_onPay mc am co v w u < 5 := by
  have := f_onPA_lt mc v w u
  unfold f_onPay; split <;> (try split) <;> (try split) <;> omega
theorem f_onTri_lt (mc : Nat) (am : Nat → Int32) (v w u : Int32) : f_onTri mc am v w u < 5 := by
  unfold f_onTri; repeat' split
  all_goals omega
theorem f_onPl_lt (mc : Nat) (ca : Nat → Int32) (v u : Int32) : f_onPl mc ca v u < 5 := by
  unfold f_onPl; repeat' split
  all_goals omega
theorem f_onLi_lt (mc : Nat) (am : Nat → Int32) (v u : Int32) : f_onLi mc am v u < 5 := by
  unfold f_onLi; repeat' split
  all_goals omega
theorem f_onHc_lt (u : Int32) : f_onHc u < 5 := by
  unfold f_onHc; repeat' split
  all_goals omega
theorem f_onDf_lt (mc : Nat) (am co ca de : Nat → Int32) (hc v : Int32) : f_onDf mc am co ca de hc v < 5 := by
  unfold f_onDf; repeat' split
  all_goals omega
theorem z_onMember {mc : Nat} {v : Int32} (h : f_onMember mc v = 0) (hm : mc ≤ 8) : ∃ x, x < mc ∧ v = nI x := by
  unfold f_onMember at h
  split at h
  · omega
  · next h1 => exact z_has h1 hm
theorem z_onJoin {mc : Nat} (h : f_onJoin mc = 0) (hm : mc ≤ 8) : mc < 8 := by
  unfold f_onJoin at h
  split at h
  · omega
  · next h1 => exact z_lt (by omega) (by decide) h1
theorem z_onDebt {mc : Nat} {am li de : Nat → Int32} {v w u : Int32} (h : f_onDebt mc am li de v w u = 0) : f_onPA mc v w u = 0 := by
  unfold f_onDebt at h
  split at h
  · next h1 => exact h1
  · exact h
theorem z_onPay {mc : Nat} {am co : Nat → Int32} {v w u : Int32} (h : f_onPay mc am co v w u = 0) : f_onPA mc v w u = 0 := by
  unfold f_onPay at h
  split at h
  · next h1 => exact h1
  · exact h
theorem z_onTri {mc : Nat} {am : Nat → Int32} {v w u : Int32} (h : f_onTri mc am v w u = 0) (hm : mc ≤ 8) : ∃ x y z, x < mc ∧ y < mc ∧ z < mc ∧ v = nI x ∧ w = nI y ∧ u = nI z := by
  unfold f_onTri at h
  split at h
  · omega
  · next h1 =>
    split at h
    · omega
    · next h2 =>
      split at h
      · omega
      · next h3 =>
        obtain ⟨x, hx, e1⟩ := z_has h1 hm
        obtain ⟨y, hy, e2⟩ := z_has h2 hm
        obtain ⟨z, hz, e3⟩ := z_has h3 hm
        exact ⟨x, y, z, hx, hy, hz, e1, e2, e3⟩
theorem z_onPl {mc : Nat} {ca : Nat → Int32} {v u : Int32} (h : f_onPl mc ca v u = 0) (hm : mc ≤ 8) : ∃ x, x < mc ∧ v = nI x := by
  unfold f_onPl at h
  split at h
  · omega
  · next h1 => exact z_has h1 hm
theorem z_onLi {mc : Nat} {am : Nat → Int32} {v u : Int32} (h : f_onLi mc am v u = 0) (hm : mc ≤ 8) : ∃ x, x < mc ∧ v = nI x := by
  unfold f_onLi at h
  split at h
  · omega
  · next h1 => exact z_has h1 hm
theorem z_onDf {mc : Nat} {am co ca de : Nat → Int32} {hc v : Int32} (h : f_onDf mc am co ca de hc v = 0) (hm : mc ≤ 8) : ∃ x, x < mc ∧ v = nI x := by
  unfold f_onDf at h
  split at h
  · omega
  · next h1 => exact z_has h1 hm
theorem z_nbV (b : Nat → Bool) (k : Nat) : narrow .boolean (.int (zBo b k)) = .int (zBo b k) := by
  unfold zBo
  cases b k <;> rfl
set_option maxHeartbeats 4000000 in
set_option maxRecDepth 100000 in
theorem c_X10_throwIfRefused (l : Launch) (hl9 : l.stackTraces = false) (D : va_G) (g : Nat → ClassId) (er : Nat → Nat) (rr : Nat) (hr5 : rr < 5) (sz : Nat) : vx_Met l yX10_throwIfRefused wsX10_throwIfRefused { frames := 6, cells := 1, slots := 6, locals := 82 } (zPc D (gT g) (zEnv er) [.ref (er rr)] [] [] sz) (zQv D [] (fun (_ : Unit) => rr = 0) (fun _ => []) sz) (zXC D [] (fun (E : String) (_ : Unit) => E = zExc (rr) ∧ ¬ (rr) = 0) (fun _ => []) sz) 1 6 (va_A [] sz) := by
  refine z_metX (y := yX10_throwIfRefused) (XC := zXC D [] (fun (E : String) (_ : Unit) => E = zExc (rr) ∧ ¬ (rr) = 0) (fun _ => [])) (cc := cX10_throwIfRefused) (nL := 1) (rm := { frames := 6, cells := 1, slots := 6, locals := 82 }) (D := D) (tys := gT g) (wr := []) (P0 := zEnv er) (As := [.ref (er rr)]) (ww := []) (Qc := zQv D [] (fun (_ : Unit) => rr = 0) (fun _ => [])) (ret := none) (by decide) rfl (Nat.le_of_ble_eq_true rfl) ?_ sz
  intro p e s m args below meth c A Q hA hQ F E hr hlk hx9
  show zW p l e { frames := 6, cells := 1, slots := 6, locals := 82 } s m args below meth c 1 D A Q 0 0 [] [(0, .ref (er rr))] [] 0
  refine z_aload_n F 0 dX10_throwIfRefused_0 rfl rfl ?_
  refine z_getsE F (zEnv.ref E) 1 (by decide) rfl (List.mem_cons_of_mem _ (List.mem_append_left _ (List.mem_append_left _ (List.mem_append_left _ (List.mem_append_left _ (List.mem_of_getElem? (i := 8) rfl)))))) dX10_throwIfRefused_1 ?_
  refine z_acmp_ne (tgt := 18) F dX10_throwIfRefused_4 (by decide) (fun c1 => ?_) (fun c1 => ?_)
  · have h1 : ¬ rr = 1 := fun q => c1 (by rw [q])
    refine z_aload_n F 0 dX10_throwIfRefused_18 rfl rfl ?_
    refine z_getsE F (zEnv.ref E) 2 (by decide) rfl (List.mem_cons_of_mem _ (List.mem_append_left _ (List.mem_append_left _ (List.mem_append_left _ (List.mem_append_left _ (List.mem_of_getElem? (i := 9) rfl)))))) dX10_throwIfRefused_19 ?_
    refine z_acmp_ne (tgt := 36) F dX10_throwIfRefused_22 (by decide) (fun c2 => ?_) (fun c2 => ?_)
    · have h2 : ¬ rr = 2 := fun q => c2 (by rw [q])
      refine z_aload_n F 0 dX10_throwIfRefused_36 rfl rfl ?_
      refine z_getsE F (zEnv.ref E) 3 (by decide) rfl (List.mem_cons_of_mem _ (List.mem_append_left _ (List.mem_append_left _ (List.mem_append_left _ (List.mem_append_left _ (List.mem_of_getElem? (i := 10) rfl)))))) dX10_throwIfRefused_37 ?_
      refine z_acmp_ne (tgt := 54) F dX10_throwIfRefused_40 (by decide) (fun c3 => ?_) (fun c3 => ?_)
      · have h3 : ¬ rr = 3 := fun q => c3 (by rw [q])
        refine z_aload_n F 0 dX10_throwIfRefused_54 rfl rfl ?_
        refine z_getsE F (zEnv.ref E) 4 (by decide) rfl (List.mem_cons_of_mem _ (List.mem_append_left _ (List.mem_append_left _ (List.mem_append_left _ (List.mem_append_left _ (List.mem_of_getElem? (i := 11) rfl)))))) dX10_throwIfRefused_55 ?_
        refine z_acmp_ne (tgt := 72) F dX10_throwIfRefused_58 (by decide) (fun c4 => ?_) (fun c4 => ?_)
        · have h4 : ¬ rr = 4 := fun q => c4 (by rw [q])
          refine z_wide (k := 1) (n := 6) (Nat.le_of_ble_eq_true rfl) (Nat.le_of_ble_eq_true rfl) ?_
          refine z_xret hQ ?_
          exact z_vret F hA rfl hlk hr () (by omega) (rfl) dX10_throwIfRefused_72
        · have h4 : rr = 4 := z_er (zEnv.ref E) c4 hr5 (by decide)
          subst h4
          exact z_throwW (names := ["java/lang/RuntimeException", "java/lang/Exception"]) (B := zB9 "java/lang/UnsupportedOperationException") F hA hQ hl9 hx9 hlk (by decide) (by decide) (List.mem_cons_of_mem _ (List.mem_append_left _ (List.mem_append_left _ (List.mem_append_left _ (List.mem_append_left _ (List.mem_of_getElem? (i := 6) rfl)))))) (List.mem_cons_of_mem _ (List.mem_append_left _ (List.mem_append_left _ (List.mem_append_left _ (List.mem_append_left _ (List.mem_of_getElem? (i := 7) rfl)))))) (zEnv.str E 15 rfl) (fun w h => List.mem_cons_of_mem _ (List.mem_append_right _ (h))) (by decide +kernel) (zEnv.b9 E 5 rfl) (by decide +kernel) (by decide +kernel) (zEnv.zu E) (zEnv.zn E) dX10_throwIfRefused_61 dX10_throwIfRefused_64 dX10_throwIfRefused_65 dX10_throwIfRefused_68 dX10_throwIfRefused_71 (Nat.le_of_ble_eq_true rfl) (Nat.le_of_ble_eq_true rfl) (Nat.le_of_ble_eq_true rfl) (Nat.le_of_ble_eq_true rfl) (Nat.le_of_ble_eq_true rfl) (Nat.le_of_ble_eq_true rfl) () (⟨rfl, by decide⟩) (rfl)
      · have h3 : rr = 3 := z_er (zEnv.ref E) c3 hr5 (by decide)
        subst h3
        exact z_throwW (names := ["java/lang/RuntimeException", "java/lang/Exception"]) (B := zB9 "java/lang/IllegalStateException") F hA hQ hl9 hx9 hlk (by decide) (by decide) (List.mem_cons_of_mem _ (List.mem_append_left _ (List.mem_append_left _ (List.mem_append_left _ (List.mem_append_left _ (List.mem_of_getElem? (i := 4) rfl)))))) (List.mem_cons_of_mem _ (List.mem_append_left _ (List.mem_append_left _ (List.mem_append_left _ (List.mem_append_left _ (List.mem_of_getElem? (i := 5) rfl)))))) (zEnv.str E 14 rfl) (fun w h => List.mem_cons_of_mem _ (List.mem_append_left _ (List.mem_append_right _ (h)))) (by decide +kernel) (zEnv.b9 E 2 rfl) (by decide +kernel) (by decide +kernel) (zEnv.zu E) (zEnv.zn E) dX10_throwIfRefused_43 dX10_throwIfRefused_46 dX10_throwIfRefused_47 dX10_throwIfRefused_50 dX10_throwIfRefused_53 (Nat.le_of_ble_eq_true rfl) (Nat.le_of_ble_eq_true rfl) (Nat.le_of_ble_eq_true rfl) (Nat.le_of_ble_eq_true rfl) (Nat.le_of_ble_eq_true rfl) (Nat.le_of_ble_eq_true rfl) () (⟨rfl, by decide⟩) (rfl)
    · have h2 : rr = 2 := z_er (zEnv.ref E) c2 hr5 (by decide)
      subst h2
      exact z_throwW (names := ["java/lang/RuntimeException", "java/lang/Exception"]) (B := zB9 "java/lang/IllegalArgumentException") F hA hQ hl9 hx9 hlk (by decide) (by decide) (List.mem_cons_of_mem _ (List.mem_append_left _ (List.mem_append_left _ (List.mem_append_left _ (List.mem_append_left _ (List.mem_of_getElem? (i := 2) rfl)))))) (List.mem_cons_of_mem _ (List.mem_append_left _ (List.mem_append_left _ (List.mem_append_left _ (List.mem_append_left _ (List.mem_of_getElem? (i := 3) rfl)))))) (zEnv.str E 13 rfl) (fun w h => List.mem_cons_of_mem _ (List.mem_append_left _ (List.mem_append_left _ (List.mem_append_right _ (h))))) (by decide +kernel) (zEnv.b9 E 1 rfl) (by decide +kernel) (by decide +kernel) (zEnv.zu E) (zEnv.zn E) dX10_throwIfRefused_25 dX10_throwIfRefused_28 dX10_throwIfRefused_29 dX10_throwIfRefused_32 dX10_throwIfRefused_35 (Nat.le_of_ble_eq_true rfl) (Nat.le_of_ble_eq_true rfl) (Nat.le_of_ble_eq_true rfl) (Nat.le_of_ble_eq_true rfl) (Nat.le_of_ble_eq_true rfl) (Nat.le_of_ble_eq_true rfl) () (⟨rfl, by decide⟩) (rfl)
  · have h1 : rr = 1 := z_er (zEnv.ref E) c1 hr5 (by decide)
    subst h1
    exact z_throwW (names := ["java/lang/RuntimeException", "java/lang/Exception"]) (B := zB9 "java/lang/IndexOutOfBoundsException") F hA hQ hl9 hx9 hlk (by decide) (by decide) (List.mem_cons_of_mem _ (List.mem_append_left _ (List.mem_append_left _ (List.mem_append_left _ (List.mem_append_left _ (List.mem_of_getElem? (i := 0) rfl)))))) (List.mem_cons_of_mem _ (List.mem_append_left _ (List.mem_append_left _ (List.mem_append_left _ (List.mem_append_left _ (List.mem_of_getElem? (i := 1) rfl)))))) (zEnv.str E 12 rfl) (fun w h => List.mem_cons_of_mem _ (List.mem_append_left _ (List.mem_append_left _ (List.mem_append_left _ (List.mem_append_right _ (h)))))) (by decide +kernel) (zEnv.b9 E 3 rfl) (by decide +kernel) (by decide +kernel) (zEnv.zu E) (zEnv.zn E) dX10_throwIfRefused_7 dX10_throwIfRefused_10 dX10_throwIfRefused_11 dX10_throwIfRefused_14 dX10_throwIfRefused_17 (Nat.le_of_ble_eq_true rfl) (Nat.le_of_ble_eq_true rfl) (Nat.le_of_ble_eq_true rfl) (Nat.le_of_ble_eq_true rfl) (Nat.le_of_ble_eq_true rfl) (Nat.le_of_ble_eq_true rfl) () (⟨rfl, by decide⟩) (rfl)
set_option maxHeartbeats 4000000 in
set_option maxRecDepth 100000 in
theorem c_X10_coins (l : Launch) (hl9 : l.stackTraces = false) (D : va_G) (g : Nat → ClassId) (er : Nat → Nat) (a : Nat → Nat) (co : Nat → Int32) (mc : Nat) (hc : Int32) (ne : Int32) (lo : Int32) (hs : Int32) (ep : Int32) (fc : Int32) (v : Int32) (hm : mc ≤ 8) (sz : Nat) : vx_Met l yX10_coins wsX10_coins { frames := 7, cells := 1, slots := 6, locals := 102 } (zPc D (gT g) (zEnv er) [.ref (a 0), .int v] [] [(a 0, .inr (10, [.ref (a 1), .ref (a 8), .ref (a 15), .ref (a 22), .ref (a 24), .ref (a 27), .ref (a 33), .ref (a 91), .ref (a 94), .int hs, .int ep, .int fc])), (a 1, .inr (7, [.ref (a 2), .ref (a 3), .ref (a 4), .ref (a 5), .ref (a 6), .ref (a 7), .int (nI mc), .int hc, .int ne, .int lo])), (a 3, .inl (g 0, 8, .inl co))] sz) (zQi D [] (fun (r : Int32) (_ : Unit) => f_onMember mc v = 0 ∧ r = co (z_n v)) (fun _ => []) sz) (zXC D [] (fun (E : String) (_ : Unit) => E = zExc (f_onMember mc v) ∧ ¬ (f_onMember mc v) = 0) (fun _ => []) sz) 1 6 (va_A [] sz) := by
  refine z_metX (y := yX10_coins) (XC := zXC D [] (fun (E : String) (_ : Unit) => E = zExc (f_onMember mc v) ∧ ¬ (f_onMember mc v) = 0) (fun _ => [])) (cc := cX10_coins) (nL := 2) (rm := { frames := 7, cells := 1, slots := 6, locals := 102 }) (D := D) (tys := gT g) (wr := [(a 0, .inr (10, [.ref (a 1), .ref (a 8), .ref (a 15), .ref (a 22), .ref (a 24), .ref (a 27), .ref (a 33), .ref (a 91), .ref (a 94), .int hs, .int ep, .int fc])), (a 1, .inr (7, [.ref (a 2), .ref (a 3), .ref (a 4), .ref (a 5), .ref (a 6), .ref (a 7), .int (nI mc), .int hc, .int ne, .int lo])), (a 3, .inl (g 0, 8, .inl co))]) (P0 := zEnv er) (As := [.ref (a 0), .int v]) (ww := []) (Qc := zQi D [] (fun (r : Int32) (_ : Unit) => f_onMember mc v = 0 ∧ r = co (z_n v)) (fun _ => [])) (ret := (some .int)) (by decide) rfl (Nat.le_of_ble_eq_true rfl) ?_ sz
  intro p e s m args below meth c A Q hA hQ F E hr hlk hx9
  show zW p l e { frames := 7, cells := 1, slots := 6, locals := 102 } s m args below meth c 2 D A Q 0 0 [] [(0, .ref (a 0)), (1, .int v)] [] 0
  refine z_aload_n F 0 dX10_coins_0 rfl rfl ?_
  refine z_get (C := RX10) (T := TX10) (N := 12) F (fun w h => List.mem_cons_of_mem _ (List.mem_append_left _ (List.mem_append_left _ (List.mem_append_left _ (List.mem_append_left _ (List.mem_append_left _ (List.mem_append_left _ (List.mem_append_right _ (h))))))))) 0 rfl rfl 0 (by decide) (List.mem_cons_of_mem _ (List.mem_append_left _ (List.mem_append_left _ (List.mem_append_left _ (List.mem_append_left _ (List.mem_append_left _ (List.mem_append_left _ (List.mem_append_left _ (List.mem_append_left _ (List.mem_of_getElem? (i := 0) rfl)))))))))) rfl rfl dX10_coins_1 ?_
  refine z_iload_n F 1 dX10_coins_4 rfl rfl ?_
  refine z_calle0 F (z_runS (st := []) F (zEnv_ok er) E (fun sz => c_X9_onMember l D g er (a 1) (a 2) (a 3) (a 4) (a 5) (a 6) (a 7) mc hc ne lo v sz) (va_cwS 2 F.1.2.2.2.2 gX10_coins_X9_onMember rfl rfl rfl (by decide +kernel) ⟨Nat.le_of_ble_eq_true rfl, Nat.le_of_ble_eq_true rfl⟩) [] [1] rfl rfl (by decide) rfl rfl (Nat.le_of_ble_eq_true rfl) dX10_coins_5 ⟨Nat.le_of_ble_eq_true rfl, Nat.le_of_ble_eq_true rfl⟩) (fun r2 _ hw1 => ?_)
  subst hw1
  refine z_st (st' := [.ref (er (f_onMember mc v))]) rfl ?_
  refine z_callXv0 F (z_runSX (st := []) F (zEnv_ok er) E (fun sz => c_X10_throwIfRefused l hl9 D g er (f_onMember mc v) (f_onMember_lt mc v) sz) (va_cwS 1 F.1.2.2.2.2 gX10_coins_X10_throwIfRefused rfl rfl rfl (by decide +kernel) ⟨Nat.le_of_ble_eq_true rfl, Nat.le_of_ble_eq_true rfl⟩) [] [] rfl rfl (by decide) rfl rfl (Nat.le_of_ble_eq_true rfl) dX10_coins_8 ⟨Nat.le_of_ble_eq_true rfl, Nat.le_of_ble_eq_true rfl⟩) (fun E9 u9 hx => z_out F hA hQ hx9 hlk () (hx) (rfl) (by first | exact Nat.le_of_ble_eq_true rfl | omega) (by first | exact Nat.le_of_ble_eq_true rfl | omega)) (fun _ hw3 => ?_)
  have hc8 := hw3
  have hC0 := hw3
  obtain ⟨x, hx, e1⟩ := z_onMember hc8 hm
  subst e1
  have hx8 : x < 8 := by omega
  refine z_aload_n F 0 dX10_coins_11 rfl rfl ?_
  refine z_get (C := RX10) (T := TX10) (N := 12) F (fun w h => List.mem_cons_of_mem _ (List.mem_append_left _ (List.mem_append_left _ (List.mem_append_left _ (List.mem_append_left _ (List.mem_append_left _ (List.mem_append_left _ (List.mem_append_right _ (h))))))))) 0 rfl rfl 0 (by decide) (List.mem_cons_of_mem _ (List.mem_append_left _ (List.mem_append_left _ (List.mem_append_left _ (List.mem_append_left _ (List.mem_append_left _ (List.mem_append_left _ (List.mem_append_left _ (List.mem_append_left _ (List.mem_of_getElem? (i := 0) rfl)))))))))) rfl rfl dX10_coins_12 ?_
  refine z_getN (C := RX5) (T := TX5) (N := 10) F (fun w h => List.mem_cons_of_mem _ (List.mem_append_left _ (List.mem_append_left _ (List.mem_append_left _ (List.mem_append_left _ (List.mem_append_left _ (List.mem_append_right _ (h)))))))) 1 rfl rfl 1 (by decide) (zEnv.nf E 3 rfl) rfl rfl dX10_coins_15 ?_
  refine z_iload_n F 1 dX10_coins_18 rfl rfl ?_
  refine z_ialdN (j := x) F 2 0 rfl rfl (by omega) (by decide) dX10_coins_19 ?_
  refine z_wide (k := 1) (n := 6) (Nat.le_of_ble_eq_true rfl) (Nat.le_of_ble_eq_true rfl) ?_
  refine z_xret hQ ?_
  exact z_iret F hA rfl hlk hr () (⟨hc8, by simp only [z_nn hx8]⟩) (rfl) dX10_coins_20
set_option maxHeartbeats 4000000 in
set_option maxRecDepth 100000 in
theorem c_X10_collateral (l : Launch) (hl9 : l.stackTraces = false) (D : va_G) (g : Nat → ClassId) (er : Nat → Nat) (a : Nat → Nat) (ca : Nat → Int32) (mc : Nat) (hc : Int32) (ne : Int32) (lo : Int32) (hs : Int32) (ep : Int32) (fc : Int32) (v : Int32) (hm : mc ≤ 8) (sz : Nat) : vx_Met l yX10_collateral wsX10_collateral { frames := 7, cells := 1, slots := 6, locals := 102 } (zPc D (gT g) (zEnv er) [.ref (a 0), .int v] [] [(a 0, .inr (10, [.ref (a 1), .ref (a 8), .ref (a 15), .ref (a 22), .ref (a 24), .ref (a 27), .ref (a 33), .ref (a 91), .ref (a 94), .int hs, .int ep, .int fc])), (a 1, .inr (7, [.ref (a 2), .ref (a 3), .ref (a 4), .ref (a 5), .ref (a 6), .ref (a 7), .int (nI mc), .int hc, .int ne, .int lo])), (a 4, .inl (g 0, 8, .inl ca))] sz) (zQi D [] (fun (r : Int32) (_ : Unit) => f_onMember mc v = 0 ∧ r = ca (z_n v)) (fun _ => []) sz) (zXC D [] (fun (E : String) (_ : Unit) => E = zExc (f_onMember mc v) ∧ ¬ (f_onMember mc v) = 0) (fun _ => []) sz) 1 6 (va_A [] sz) := by
  refine z_metX (y := yX10_collateral) (XC := zXC D [] (fun (E : String) (_ : Unit) => E = zExc (f_onMember mc v) ∧ ¬ (f_onMember mc v) = 0) (fun _ => [])) (cc := cX10_collateral) (nL := 2) (rm := { frames := 7, cells := 1, slots := 6, locals := 102 }) (D := D) (tys := gT g) (wr := [(a 0, .inr (10, [.ref (a 1), .ref (a 8), .ref (a 15), .ref (a 22), .ref (a 24), .ref (a 27), .ref (a 33), .ref (a 91), .ref (a 94), .int hs, .int ep, .int fc])), (a 1, .inr (7, [.ref (a 2), .ref (a 3), .ref (a 4), .ref (a 5), .ref (a 6), .ref (a 7), .int (nI mc), .int hc, .int ne, .int lo])), (a 4, .inl (g 0, 8, .inl ca))]) (P0 := zEnv er) (As := [.ref (a 0), .int v]) (ww := []) (Qc := zQi D [] (fun (r : Int32) (_ : Unit) => f_onMember mc v = 0 ∧ r = ca (z_n v)) (fun _ => [])) (ret := (some .int)) (by decide) rfl (Nat.le_of_ble_eq_true rfl) ?_ sz
  intro p e s m args below meth c A Q hA hQ F E hr hlk hx9
  show zW p l e { frames := 7, cells := 1, slots := 6, locals := 102 } s m args below meth c 2 D A Q 0 0 [] [(0, .ref (a 0)), (1, .int v)] [] 0
  refine z_aload_n F 0 dX10_collateral_0 rfl rfl ?_
  refine z_get (C := RX10) (T := TX10) (N := 12) F (fun w h => List.mem_cons_of_mem _ (List.mem_append_left _ (List.mem_append_left _ (List.mem_append_left _ (List.mem_append_left _ (List.mem_append_left _ (List.mem_append_left _ (List.mem_append_right _ (h))))))))) 0 rfl rfl 0 (by decide) (List.mem_cons_of_mem _ (List.mem_append_left _ (List.mem_append_left _ (List.mem_append_left _ (List.mem_append_left _ (List.mem_append_left _ (List.mem_append_left _ (List.mem_append_left _ (List.mem_append_left _ (List.mem_of_getElem? (i := 0) rfl)))))))))) rfl rfl dX10_collateral_1 ?_
  refine z_iload_n F 1 dX10_collateral_4 rfl rfl ?_
  refine z_calle0 F (z_runS (st := []) F (zEnv_ok er) E (fun sz => c_X9_onMember l D g er (a 1) (a 2) (a 3) (a 4) (a 5) (a 6) (a 7) mc hc ne lo v sz) (va_cwS 2 F.1.2.2.2.2 gX10_collateral_X9_onMember rfl rfl rfl (by decide +kernel) ⟨Nat.le_of_ble_eq_true rfl, Nat.le_of_ble_eq_true rfl⟩) [] [1] rfl rfl (by decide) rfl rfl (Nat.le_of_ble_eq_true rfl) dX10_collateral_5 ⟨Nat.le_of_ble_eq_true rfl, Nat.le_of_ble_eq_true rfl⟩) (fun r2 _ hw1 => ?_)
  subst hw1
  refine z_st (st' := [.ref (er (f_onMember mc v))]) rfl ?_
  refine z_callXv0 F (z_runSX (st := []) F (zEnv_ok er) E (fun sz => c_X10_throwIfRefused l hl9 D g er (f_onMember mc v) (f_onMember_lt mc v) sz) (va_cwS 1 F.1.2.2.2.2 gX10_collateral_X10_throwIfRefused rfl rfl rfl (by decide +kernel) ⟨Nat.le_of_ble_eq_true rfl, Nat.le_of_ble_eq_true rfl⟩) [] [] rfl rfl (by decide) rfl rfl (Nat.le_of_ble_eq_true rfl) dX10_collateral_8 ⟨Nat.le_of_ble_eq_true rfl, Nat.le_of_ble_eq_true rfl⟩) (fun E9 u9 hx => z_out F hA hQ hx9 hlk () (hx) (rfl) (by first | exact Nat.le_of_ble_eq_true rfl | omega) (by first | exact Nat.le_of_ble_eq_true rfl | omega)) (fun _ hw3 => ?_)
  have hc8 := hw3
  have hC0 := hw3
  obtain ⟨x, hx, e1⟩ := z_onMember hc8 hm
  subst e1
  have hx8 : x < 8 := by omega
  refine z_aload_n F 0 dX10_collateral_11 rfl rfl ?_
  refine z_get (C := RX10) (T := TX10) (N := 12) F (fun w h => List.mem_cons_of_mem _ (List.mem_append_left _ (List.mem_append_left _ (List.mem_append_left _ (List.mem_append_left _ (List.mem_append_left _ (List.mem_append_left _ (List.mem_append_right _ (h))))))))) 0 rfl rfl 0 (by decide) (List.mem_cons_of_mem _ (List.mem_append_left _ (List.mem_append_left _ (List.mem_append_left _ (List.mem_append_left _ (List.mem_append_left _ (List.mem_append_left _ (List.mem_append_left _ (List.mem_append_left _ (List.mem_of_getElem? (i := 0) rfl)))))))))) rfl rfl dX10_collateral_12 ?_
  refine z_getN (C := RX5) (T := TX5) (N := 10) F (fun w h => List.mem_cons_of_mem _ (List.mem_append_left _ (List.mem_append_left _ (List.mem_append_left _ (List.mem_append_left _ (List.mem_append_left _ (List.mem_append_right _ (h)))))))) 1 rfl rfl 2 (by decide) (zEnv.nf E 6 rfl) rfl rfl dX10_collateral_15 ?_
  refine z_iload_n F 1 dX10_collateral_18 rfl rfl ?_
  refine z_ialdN (j := x) F 2 0 rfl rfl (by omega) (by decide) dX10_collateral_19 ?_
  refine z_wide (k := 1) (n := 6) (Nat.le_of_ble_eq_true rfl) (Nat.le_of_ble_eq_true rfl) ?_
  refine z_xret hQ ?_
  exact z_iret F hA rfl hlk hr () (⟨hc8, by simp only [z_nn hx8]⟩) (rfl) dX10_collateral_20
set_option maxHeartbeats 4000000 in
set_option maxRecDepth 100000 in
theorem c_X10_cover (l : Launch) (hl9 : l.stackTraces = false) (D : va_G) (g : Nat → ClassId) (er : Nat → Nat) (a : Nat → Nat) (ca : Nat → Int32) (mc : Nat) (hc : Int32) (ne : Int32) (lo : Int32) (hs : Int32) (ep : Int32) (fc : Int32) (v : Int32) (hm : mc ≤ 8) (sz : Nat) : vx_Met l yX10_cover wsX10_cover { frames := 7, cells := 1, slots := 6, locals := 102 } (zPc D (gT g) (zEnv er) [.ref (a 0), .int v] [] [(a 0, .inr (10, [.ref (a 1), .ref (a 8), .ref (a 15), .ref (a 22), .ref (a 24), .ref (a 27), .ref (a 33), .ref (a 91), .ref (a 94), .int hs, .int ep, .int fc])), (a 1, .inr (7, [.ref (a 2), .ref (a 3), .ref (a 4), .ref (a 5), .ref (a 6), .ref (a 7), .int (nI mc), .int hc, .int ne, .int lo])), (a 4, .inl (g 0, 8, .inl ca))] sz) (zQi D [] (fun (r : Int32) (_ : Unit) => f_onMember mc v = 0 ∧ r = f_cover ca hc (z_n v)) (fun _ => []) sz) (zXC D [] (fun (E : String) (_ : Unit) => E = zExc (f_onMember mc v) ∧ ¬ (f_onMember mc v) = 0) (fun _ => []) sz) 1 6 (va_A [] sz) := by
  refine z_metX (y := yX10_cover) (XC := zXC D [] (fun (E : String) (_ : Unit) => E = zExc (f_onMember mc v) ∧ ¬ (f_onMember mc v) = 0) (fun _ => [])) (cc := cX10_cover) (nL := 2) (rm := { frames := 7, cells := 1, slots := 6, locals := 102 }) (D := D) (tys := gT g) (wr := [(a 0, .inr (10, [.ref (a 1), .ref (a 8), .ref (a 15), .ref (a 22), .ref (a 24), .ref (a 27), .ref (a 33), .ref (a 91), .ref (a 94), .int hs, .int ep, .int fc])), (a 1, .inr (7, [.ref (a 2), .ref (a 3), .ref (a 4), .ref (a 5), .ref (a 6), .ref (a 7), .int (nI mc), .int hc, .int ne, .int lo])), (a 4, .inl (g 0, 8, .inl ca))]) (P0 := zEnv er) (As := [.ref (a 0), .int v]) (ww := []) (Qc := zQi D [] (fun (r : Int32) (_ : Unit) => f_onMember mc v = 0 ∧ r = f_cover ca hc (z_n v)) (fun _ => [])) (ret := (some .int)) (by decide) rfl (Nat.le_of_ble_eq_true rfl) ?_ sz
  intro p e s m args below meth c A Q hA hQ F E hr hlk hx9
  show zW p l e { frames := 7, cells := 1, slots := 6, locals := 102 } s m args below meth c 2 D A Q 0 0 [] [(0, .ref (a 0)), (1, .int v)] [] 0
  refine z_aload_n F 0 dX10_cover_0 rfl rfl ?_
  refine z_get (C := RX10) (T := TX10) (N := 12) F (fun w h => List.mem_cons_of_mem _ (List.mem_append_left _ (List.mem_append_left _ (List.mem_append_left _ (List.mem_append_left _ (List.mem_append_left _ (List.mem_append_left _ (List.mem_append_right _ (h))))))))) 0 rfl rfl 0 (by decide) (List.mem_cons_of_mem _ (List.mem_append_left _ (List.mem_append_left _ (List.mem_append_left _ (List.mem_append_left _ (List.mem_append_left _ (List.mem_append_left _ (List.mem_append_left _ (List.mem_append_left _ (List.mem_of_getElem? (i := 0) rfl)))))))))) rfl rfl dX10_cover_1 ?_
  refine z_iload_n F 1 dX10_cover_4 rfl rfl ?_
  refine z_calle0 F (z_runS (st := []) F (zEnv_ok er) E (fun sz => c_X9_onMember l D g er (a 1) (a 2) (a 3) (a 4) (a 5) (a 6) (a 7) mc hc ne lo v sz) (va_cwS 2 F.1.2.2.2.2 gX10_cover_X9_onMember rfl rfl rfl (by decide +kernel) ⟨Nat.le_of_ble_eq_true rfl, Nat.le_of_ble_eq_true rfl⟩) [] [1] rfl rfl (by decide) rfl rfl (Nat.le_of_ble_eq_true rfl) dX10_cover_5 ⟨Nat.le_of_ble_eq_true rfl, Nat.le_of_ble_eq_true rfl⟩) (fun r2 _ hw1 => ?_)
  subst hw1
  refine z_st (st' := [.ref (er (f_onMember mc v))]) rfl ?_
  refine z_callXv0 F (z_runSX (st := []) F (zEnv_ok er) E (fun sz => c_X10_throwIfRefused l hl9 D g er (f_onMember mc v) (f_onMember_lt mc v) sz) (va_cwS 1 F.1.2.2.2.2 gX10_cover_X10_throwIfRefused rfl rfl rfl (by decide +kernel) ⟨Nat.le_of_ble_eq_true rfl, Nat.le_of_ble_eq_true rfl⟩) [] [] rfl rfl (by decide) rfl rfl (Nat.le_of_ble_eq_true rfl) dX10_cover_8 ⟨Nat.le_of_ble_eq_true rfl, Nat.le_of_ble_eq_true rfl⟩) (fun E9 u9 hx => z_out F hA hQ hx9 hlk () (hx) (rfl) (by first | exact Nat.le_of_ble_eq_true rfl | omega) (by first | exact Nat.le_of_ble_eq_true rfl | omega)) (fun _ hw3 => ?_)
  have hc8 := hw3
  have hC0 := hw3
  obtain ⟨x, hx, e1⟩ := z_onMember hc8 hm
  subst e1
  have hx8 : x < 8 := by omega
  refine z_aload_n F 0 dX10_cover_11 rfl rfl ?_
  refine z_get (C := RX10) (T := TX10) (N := 12) F (fun w h => List.mem_cons_of_mem _ (List.mem_append_left _ (List.mem_append_left _ (List.mem_append_left _ (List.mem_append_left _ (List.mem_append_left _ (List.mem_append_left _ (List.mem_append_right _ (h))))))))) 0 rfl rfl 0 (by decide) (List.mem_cons_of_mem _ (List.mem_append_left _ (List.mem_append_left _ (List.mem_append_left _ (List.mem_append_left _ (List.mem_append_left _ (List.mem_append_left _ (List.mem_append_left _ (List.mem_append_left _ (List.mem_of_getElem? (i := 0) rfl)))))))))) rfl rfl dX10_cover_12 ?_
  refine z_iload_n F 1 dX10_cover_15 rfl rfl ?_
  refine z_calli0 F (z_runV (st := []) F zNo_ok trivial (fun sz => c_X5_coverOf l D g (a 1) (a 2) (a 3) (a 4) (a 5) (a 6) (a 7) ca mc hc ne lo x (by omega) sz) (cwV 1 F.1.2.2.2.2 gX10_cover_X5_coverOf rfl rfl rfl (by decide +kernel) ⟨Nat.le_of_ble_eq_true rfl, Nat.le_of_ble_eq_true rfl⟩) 1 rfl rfl rfl [] [1, 2] rfl rfl (by decide) rfl rfl (Nat.le_of_ble_eq_true rfl) dX10_cover_16 ⟨Nat.le_of_ble_eq_true rfl, Nat.le_of_ble_eq_true rfl⟩) (fun r5 _ hw4 => ?_)
  subst hw4
  refine z_wide (k := 1) (n := 6) (Nat.le_of_ble_eq_true rfl) (Nat.le_of_ble_eq_true rfl) ?_
  refine z_xret hQ ?_
  exact z_iret F hA rfl hlk hr () (⟨hc8, by simp only [z_nn hx8]⟩) (rfl) dX10_cover_19
set_option maxHeartbeats 4000000 in
set_option maxRecDepth 100000 in
theorem c_X10_limit (l : Launch) (hl9 : l.stackTraces = false) (D : va_G) (g : Nat → ClassId) (er : Nat → Nat) (a : Nat → Nat) (li : Nat → Int32) (mc : Nat) (hc : Int32) (ne : Int32) (lo : Int32) (hs : Int32) (ep : Int32) (fc : Int32) (v : Int32) (hm : mc ≤ 8) (sz : Nat) : vx_Met l yX10_limit wsX10_limit { frames := 7, cells := 1, slots := 6, locals := 102 } (zPc D (gT g) (zEnv er) [.ref (a 0), .int v] [] [(a 0, .inr (10, [.ref (a 1), .ref (a 8), .ref (a 15), .ref (a 22), .ref (a 24), .ref (a 27), .ref (a 33), .ref (a 91), .ref (a 94), .int hs, .int ep, .int fc])), (a 1, .inr (7, [.ref (a 2), .ref (a 3), .ref (a 4), .ref (a 5), .ref (a 6), .ref (a 7), .int (nI mc), .int hc, .int ne, .int lo])), (a 5, .inl (g 0, 8, .inl li))] sz) (zQi D [] (fun (r : Int32) (_ : Unit) => f_onMember mc v = 0 ∧ r = li (z_n v)) (fun _ => []) sz) (zXC D [] (fun (E : String) (_ : Unit) => E = zExc (f_onMember mc v) ∧ ¬ (f_onMember mc v) = 0) (fun _ => []) sz) 1 6 (va_A [] sz) := by
  refine z_metX (y := yX10_limit) (XC := zXC D [] (fun (E : String) (_ : Unit) => E = zExc (f_onMember mc v) ∧ ¬ (f_onMember mc v) = 0) (fun _ => [])) (cc := cX10_limit) (nL := 2) (rm := { frames := 7, cells := 1, slots := 6, locals := 102 }) (D := D) (tys := gT g) (wr := [(a 0, .inr (10, [.ref (a 1), .ref (a 8), .ref (a 15), .ref (a 22), .ref (a 24), .ref (a 27), .ref (a 33), .ref (a 91), .ref (a 94), .int hs, .int ep, .int fc])), (a 1, .inr (7, [.ref (a 2), .ref (a 3), .ref (a 4), .ref (a 5), .ref (a 6), .ref (a 7), .int (nI mc), .int hc, .int ne, .int lo])), (a 5, .inl (g 0, 8, .inl li))]) (P0 := zEnv er) (As := [.ref (a 0), .int v]) (ww := []) (Qc := zQi D [] (fun (r : Int32) (_ : Unit) => f_onMember mc v = 0 ∧ r = li (z_n v)) (fun _ => [])) (ret := (some .int)) (by decide) rfl (Nat.le_of_ble_eq_true rfl) ?_ sz
  intro p e s m args below meth c A Q hA hQ F E hr hlk hx9
  show zW p l e { frames := 7, cells := 1, slots := 6, locals := 102 } s m args below meth c 2 D A Q 0 0 [] [(0, .ref (a 0)), (1, .int v)] [] 0
  refine z_aload_n F 0 dX10_limit_0 rfl rfl ?_
  refine z_get (C := RX10) (T := TX10) (N := 12) F (fun w h => List.mem_cons_of_mem _ (List.mem_append_left _ (List.mem_append_left _ (List.mem_append_left _ (List.mem_append_left _ (List.mem_append_left _ (List.mem_append_left _ (List.mem_append_right _ (h))))))))) 0 rfl rfl 0 (by decide) (List.mem_cons_of_mem _ (List.mem_append_left _ (List.mem_append_left _ (List.mem_append_left _ (List.mem_append_left _ (List.mem_append_left _ (List.mem_append_left _ (List.mem_append_left _ (List.mem_append_left _ (List.mem_of_getElem? (i := 0) rfl)))))))))) rfl rfl dX10_limit_1 ?_
  refine z_iload_n F 1 dX10_limit_4 rfl rfl ?_
  refine z_calle0 F (z_runS (st := []) F (zEnv_ok er) E (fun sz => c_X9_onMember l D g er (a 1) (a 2) (a 3) (a 4) (a 5) (a 6) (a 7) mc hc ne lo v sz) (va_cwS 2 F.1.2.2.2.2 gX10_limit_X9_onMember rfl rfl rfl (by decide +kernel) ⟨Nat.le_of_ble_eq_true rfl, Nat.le_of_ble_eq_true rfl⟩) [] [1] rfl rfl (by decide) rfl rfl (Nat.le_of_ble_eq_true rfl) dX10_limit_5 ⟨Nat.le_of_ble_eq_true rfl, Nat.le_of_ble_eq_true rfl⟩) (fun r2 _ hw1 => ?_)
  subst hw1
  refine z_st (st' := [.ref (er (f_onMember mc v))]) rfl ?_
  refine z_callXv0 F (z_runSX (st := []) F (zEnv_ok er) E (fun sz => c_X10_throwIfRefused l hl9 D g er (f_onMember mc v) (f_onMember_lt mc v) sz) (va_cwS 1 F.1.2.2.2.2 gX10_limit_X10_throwIfRefused rfl rfl rfl (by decide +kernel) ⟨Nat.le_of_ble_eq_true rfl, Nat.le_of_ble_eq_true rfl⟩) [] [] rfl rfl (by decide) rfl rfl (Nat.le_of_ble_eq_true rfl) dX10_limit_8 ⟨Nat.le_of_ble_eq_true rfl, Nat.le_of_ble_eq_true rfl⟩) (fun E9 u9 hx => z_out F hA hQ hx9 hlk () (hx) (rfl) (by first | exact Nat.le_of_ble_eq_true rfl | omega) (by first | exact Nat.le_of_ble_eq_true rfl | omega)) (fun _ hw3 => ?_)
  have hc8 := hw3
  have hC0 := hw3
  obtain ⟨x, hx, e1⟩ := z_onMember hc8 hm
  subst e1
  have hx8 : x < 8 := by omega
  refine z_aload_n F 0 dX10_limit_11 rfl rfl ?_
  refine z_get (C := RX10) (T := TX10) (N := 12) F (fun w h => List.mem_cons_of_mem _ (List.mem_append_left _ (List.mem_append_left _ (List.mem_append_left _ (List.mem_append_left _ (List.mem_append_left _ (List.mem_append_left _ (List.mem_append_right _ (h))))))))) 0 rfl rfl 0 (by decide) (List.mem_cons_of_mem _ (List.mem_append_left _ (List.mem_append_left _ (List.mem_append_left _ (List.mem_append_left _ (List.mem_append_left _ (List.mem_append_left _ (List.mem_append_left _ (List.mem_append_left _ (List.mem_of_getElem? (i := 0) rfl)))))))))) rfl rfl dX10_limit_12 ?_
  refine z_getN (C := RX5) (T := TX5) (N := 10) F (fun w h => List.mem_cons_of_mem _ (List.mem_append_left _ (List.mem_append_left _ (List.mem_append_left _ (List.mem_append_left _ (List.mem_append_left _ (List.mem_append_right _ (h)))))))) 1 rfl rfl 3 (by decide) (zEnv.nf E 8 rfl) rfl rfl dX10_limit_15 ?_
  refine z_iload_n F 1 dX10_limit_18 rfl rfl ?_
  refine z_ialdN (j := x) F 2 0 rfl rfl (by omega) (by decide) dX10_limit_19 ?_
  refine z_wide (k := 1) (n := 6) (Nat.le_of_ble_eq_true rfl) (Nat.le_of_ble_eq_true rfl) ?_
  refine z_xret hQ ?_
  exact z_iret F hA rfl hlk hr () (⟨hc8, by simp only [z_nn hx8]⟩) (rfl) dX10_limit_20
set_option maxHeartbeats 4000000 in
set_option maxRecDepth 100000 in
theorem c_X10_isInDefault (l : Launch) (hl9 : l.stackTraces = false) (D : va_G) (g : Nat → ClassId) (er : Nat → Nat) (a : Nat → Nat) (bo : Nat → Bool) (mc : Nat) (hc : Int32) (ne : Int32) (lo : Int32) (hs : Int32) (ep : Int32) (fc : Int32) (v : Int32) (hm : mc ≤ 8) (sz : Nat) : vx_Met l yX10_isInDefault wsX10_isInDefault { frames := 7, cells := 1, slots := 6, locals := 102 } (zPc D (gT g) (zEnv er) [.ref (a 0), .int v] [] [(a 0, .inr (10, [.ref (a 1), .ref (a 8), .ref (a 15), .ref (a 22), .ref (a 24), .ref (a 27), .ref (a 33), .ref (a 91), .ref (a 94), .int hs, .int ep, .int fc])), (a 1, .inr (7, [.ref (a 2), .ref (a 3), .ref (a 4), .ref (a 5), .ref (a 6), .ref (a 7), .int (nI mc), .int hc, .int ne, .int lo])), (a 7, .inl (g 1, 8, .inl ((zBo bo))))] sz) (zQi D [] (fun (r : Int32) (_ : Unit) => f_onMember mc v = 0 ∧ r = zBo bo (z_n v)) (fun _ => []) sz) (zXC D [] (fun (E : String) (_ : Unit) => E = zExc (f_onMember mc v) ∧ ¬ (f_onMember mc v) = 0) (fun _ => []) sz) 1 6 (va_A [] sz) := by
  refine z_metX (y := yX10_isInDefault) (XC := zXC D [] (fun (E : String) (_ : Unit) => E = zExc (f_onMember mc v) ∧ ¬ (f_onMember mc v) = 0) (fun _ => [])) (cc := cX10_isInDefault) (nL := 2) (rm := { frames := 7, cells := 1, slots := 6, locals := 102 }) (D := D) (tys := gT g) (wr := [(a 0, .inr (10, [.ref (a 1), .ref (a 8), .ref (a 15), .ref (a 22), .ref (a 24), .ref (a 27), .ref (a 33), .ref (a 91), .ref (a 94), .int hs, .int ep, .int fc])), (a 1, .inr (7, [.ref (a 2), .ref (a 3), .ref (a 4), .ref (a 5), .ref (a 6), .ref (a 7), .int (nI mc), .int hc, .int ne, .int lo])), (a 7, .inl (g 1, 8, .inl ((zBo bo))))]) (P0 := zEnv er) (As := [.ref (a 0), .int v]) (ww := []) (Qc := zQi D [] (fun (r : Int32) (_ : Unit) => f_onMember mc v = 0 ∧ r = zBo bo (z_n v)) (fun _ => [])) (ret := (some .boolean)) (by decide) rfl (Nat.le_of_ble_eq_true rfl) ?_ sz
  intro p e s m args below meth c A Q hA hQ F E hr hlk hx9
  show zW p l e { frames := 7, cells := 1, slots := 6, locals := 102 } s m args below meth c 2 D A Q 0 0 [] [(0, .ref (a 0)), (1, .int v)] [] 0
  refine z_aload_n F 0 dX10_isInDefault_0 rfl rfl ?_
  refine z_get (C := RX10) (T := TX10) (N := 12) F (fun w h => List.mem_cons_of_mem _ (List.mem_append_left _ (List.mem_append_left _ (List.mem_append_left _ (List.mem_append_left _ (List.mem_append_left _ (List.mem_append_left _ (List.mem_append_right _ (h))))))))) 0 rfl rfl 0 (by decide) (List.mem_cons_of_mem _ (List.mem_append_left _ (List.mem_append_left _ (List.mem_append_left _ (List.mem_append_left _ (List.mem_append_left _ (List.mem_append_left _ (List.mem_append_left _ (List.mem_append_left _ (List.mem_of_getElem? (i := 0) rfl)))))))))) rfl rfl dX10_isInDefault_1 ?_
  refine z_iload_n F 1 dX10_isInDefault_4 rfl rfl ?_
  refine z_calle0 F (z_runS (st := []) F (zEnv_ok er) E (fun sz => c_X9_onMember l D g er (a 1) (a 2) (a 3) (a 4) (a 5) (a 6) (a 7) mc hc ne lo v sz) (va_cwS 2 F.1.2.2.2.2 gX10_isInDefault_X9_onMember rfl rfl rfl (by decide +kernel) ⟨Nat.le_of_ble_eq_true rfl, Nat.le_of_ble_eq_true rfl⟩) [] [1] rfl rfl (by decide) rfl rfl (Nat.le_of_ble_eq_true rfl) dX10_isInDefault_5 ⟨Nat.le_of_ble_eq_true rfl, Nat.le_of_ble_eq_true rfl⟩) (fun r2 _ hw1 => ?_)
  subst hw1
  refine z_st (st' := [.ref (er (f_onMember mc v))]) rfl ?_
  refine z_callXv0 F (z_runSX (st := []) F (zEnv_ok er) E (fun sz => c_X10_throwIfRefused l hl9 D g er (f_onMember mc v) (f_onMember_lt mc v) sz) (va_cwS 1 F.1.2.2.2.2 gX10_isInDefault_X10_throwIfRefused rfl rfl rfl (by decide +kernel) ⟨Nat.le_of_ble_eq_true rfl, Nat.le_of_ble_eq_true rfl⟩) [] [] rfl rfl (by decide) rfl rfl (Nat.le_of_ble_eq_true rfl) dX10_isInDefault_8 ⟨Nat.le_of_ble_eq_true rfl, Nat.le_of_ble_eq_true rfl⟩) (fun E9 u9 hx => z_out F hA hQ hx9 hlk () (hx) (rfl) (by first | exact Nat.le_of_ble_eq_true rfl | omega) (by first | exact Nat.le_of_ble_eq_true rfl | omega)) (fun _ hw3 => ?_)
  have hc8 := hw3
  have hC0 := hw3
  obtain ⟨x, hx, e1⟩ := z_onMember hc8 hm
  subst e1
  have hx8 : x < 8 := by omega
  refine z_aload_n F 0 dX10_isInDefault_11 rfl rfl ?_
  refine z_get (C := RX10) (T := TX10) (N := 12) F (fun w h => List.mem_cons_of_mem _ (List.mem_append_left _ (List.mem_append_left _ (List.mem_append_left _ (List.mem_append_left _ (List.mem_append_left _ (List.mem_append_left _ (List.mem_append_right _ (h))))))))) 0 rfl rfl 0 (by decide) (List.mem_cons_of_mem _ (List.mem_append_left _ (List.mem_append_left _ (List.mem_append_left _ (List.mem_append_left _ (List.mem_append_left _ (List.mem_append_left _ (List.mem_append_left _ (List.mem_append_left _ (List.mem_of_getElem? (i := 0) rfl)))))))))) rfl rfl dX10_isInDefault_12 ?_
  refine z_getN (C := RX5) (T := TX5) (N := 10) F (fun w h => List.mem_cons_of_mem _ (List.mem_append_left _ (List.mem_append_left _ (List.mem_append_left _ (List.mem_append_left _ (List.mem_append_left _ (List.mem_append_right _ (h)))))))) 1 rfl rfl 5 (by decide) (zEnv.nf E 12 rfl) rfl rfl dX10_isInDefault_15 ?_
  refine z_iload_n F 1 dX10_isInDefault_18 rfl rfl ?_
  refine z_zaldN (j := x) F 2 1 rfl rfl (by omega) (by decide) dX10_isInDefault_19 ?_
  refine z_wide (k := 1) (n := 6) (Nat.le_of_ble_eq_true rfl) (Nat.le_of_ble_eq_true rfl) ?_
  refine z_xret hQ ?_
  exact z_zret F hA rfl hlk hr (z_nbV bo _) () (⟨hc8, by simp only [z_nn hx8]⟩) (rfl) dX10_isInDefault_20
set_option maxHeartbeats 4000000 in
set_option maxRecDepth 100000 in
theorem c_X10_owed (l : Launch) (hl9 : l.stackTraces = false) (D : va_G) (g : Nat → ClassId) (er : Nat → Nat) (a : Nat → Nat) (am : Nat → Int32) (mc : Nat) (hc : Int32) (ne : Int32) (lo : Int32) (hs : Int32) (ep : Int32) (fc : Int32) (v : Int32) (w : Int32) (hm : mc ≤ 8) (sz : Nat) : vx_Met l yX10_owed wsX10_owed { frames := 7, cells := 1, slots := 6, locals := 102 } (zPc D (gT g) (zEnv er) [.ref (a 0), .int v, .int w] [] [(a 0, .inr (10, [.ref (a 1), .ref (a 8), .ref (a 15), .ref (a 22), .ref (a 24), .ref (a 27), .ref (a 33), .ref (a 91), .ref (a 94), .int hs, .int ep, .int fc])), (a 1, .inr (7, [.ref (a 2), .ref (a 3), .ref (a 4), .ref (a 5), .ref (a 6), .ref (a 7), .int (nI mc), .int hc, .int ne, .int lo])), (a 2, .inl (g 0, 64, .inl am))] sz) (zQi D [] (fun (r : Int32) (_ : Unit) => f_onPair mc v w = 0 ∧ r = am (8 * z_n v + z_n w)) (fun _ => []) sz) (zXC D [] (fun (E : String) (_ : Unit) => E = zExc (f_onPair mc v w) ∧ ¬ (f_onPair mc v w) = 0) (fun _ => []) sz) 1 6 (va_A [] sz) := by
  refine z_metX (y := yX10_owed) (XC := zXC D [] (fun (E : String) (_ : Unit) => E = zExc (f_onPair mc v w) ∧ ¬ (f_onPair mc v w) = 0) (fun _ => [])) (cc := cX10_owed) (nL := 3) (rm := { frames := 7, cells := 1, slots := 6, locals := 102 }) (D := D) (tys := gT g) (wr := [(a 0, .inr (10, [.ref (a 1), .ref (a 8), .ref (a 15), .ref (a 22), .ref (a 24), .ref (a 27), .ref (a 33), .ref (a 91), .ref (a 94), .int hs, .int ep, .int fc])), (a 1, .inr (7, [.ref (a 2), .ref (a 3), .ref (a 4), .ref (a 5), .ref (a 6), .ref (a 7), .int (nI mc), .int hc, .int ne, .int lo])), (a 2, .inl (g 0, 64, .inl am))]) (P0 := zEnv er) (As := [.ref (a 0), .int v, .int w]) (ww := []) (Qc := zQi D [] (fun (r : Int32) (_ : Unit) => f_onPair mc v w = 0 ∧ r = am (8 * z_n v + z_n w)) (fun _ => [])) (ret := (some .int)) (by decide) rfl (Nat.le_of_ble_eq_true rfl) ?_ sz
  intro p e s m args below meth c A Q hA hQ F E hr hlk hx9
  show zW p l e { frames := 7, cells := 1, slots := 6, locals := 102 } s m args below meth c 3 D A Q 0 0 [] [(0, .ref (a 0)), (1, .int v), (2, .int w)] [] 0
  refine z_aload_n F 0 dX10_owed_0 rfl rfl ?_
  refine z_get (C := RX10) (T := TX10) (N := 12) F (fun w h => List.mem_cons_of_mem _ (List.mem_append_left _ (List.mem_append_left _ (List.mem_append_left _ (List.mem_append_left _ (List.mem_append_left _ (List.mem_append_left _ (List.mem_append_right _ (h))))))))) 0 rfl rfl 0 (by decide) (List.mem_cons_of_mem _ (List.mem_append_left _ (List.mem_append_left _ (List.mem_append_left _ (List.mem_append_left _ (List.mem_append_left _ (List.mem_append_left _ (List.mem_append_left _ (List.mem_append_left _ (List.mem_of_getElem? (i := 0) rfl)))))))))) rfl rfl dX10_owed_1 ?_
  refine z_iload_n F 1 dX10_owed_4 rfl rfl ?_
  refine z_iload_n F 2 dX10_owed_5 rfl rfl ?_
  refine z_calle0 F (z_runS (st := []) F (zEnv_ok er) E (fun sz => c_X9_onPair l D g er (a 1) (a 2) (a 3) (a 4) (a 5) (a 6) (a 7) mc hc ne lo v w sz) (va_cwS 3 F.1.2.2.2.2 gX10_owed_X9_onPair rfl rfl rfl (by decide +kernel) ⟨Nat.le_of_ble_eq_true rfl, Nat.le_of_ble_eq_true rfl⟩) [] [1] rfl rfl (by decide) rfl rfl (Nat.le_of_ble_eq_true rfl) dX10_owed_6 ⟨Nat.le_of_ble_eq_true rfl, Nat.le_of_ble_eq_true rfl⟩) (fun r2 _ hw1 => ?_)
  subst hw1
  refine z_st (st' := [.ref (er (f_onPair mc v w))]) rfl ?_
  refine z_callXv0 F (z_runSX (st := []) F (zEnv_ok er) E (fun sz => c_X10_throwIfRefused l hl9 D g er (f_onPair mc v w) (f_onPair_lt mc v w) sz) (va_cwS 1 F.1.2.2.2.2 gX10_owed_X10_throwIfRefused rfl rfl rfl (by decide +kernel) ⟨Nat.le_of_ble_eq_true rfl, Nat.le_of_ble_eq_true rfl⟩) [] [] rfl rfl (by decide) rfl rfl (Nat.le_of_ble_eq_true rfl) dX10_owed_9 ⟨Nat.le_of_ble_eq_true rfl, Nat.le_of_ble_eq_true rfl⟩) (fun E9 u9 hx => z_out F hA hQ hx9 hlk () (hx) (rfl) (by first | exact Nat.le_of_ble_eq_true rfl | omega) (by first | exact Nat.le_of_ble_eq_true rfl | omega)) (fun _ hw3 => ?_)
  have hc9 := hw3
  have hC0 := hw3
  obtain ⟨x, y, hx, hy, hxy, e1, e2⟩ := z_onPair hc9 hm
  subst e1
  have hx8 : x < 8 := by omega
  subst e2
  have hy8 : y < 8 := by omega
  refine z_aload_n F 0 dX10_owed_12 rfl rfl ?_
  refine z_get (C := RX10) (T := TX10) (N := 12) F (fun w h => List.mem_cons_of_mem _ (List.mem_append_left _ (List.mem_append_left _ (List.mem_append_left _ (List.mem_append_left _ (List.mem_append_left _ (List.mem_append_left _ (List.mem_append_right _ (h))))))))) 0 rfl rfl 0 (by decide) (List.mem_cons_of_mem _ (List.mem_append_left _ (List.mem_append_left _ (List.mem_append_left _ (List.mem_append_left _ (List.mem_append_left _ (List.mem_append_left _ (List.mem_append_left _ (List.mem_append_left _ (List.mem_of_getElem? (i := 0) rfl)))))))))) rfl rfl dX10_owed_13 ?_
  refine z_iload_n F 1 dX10_owed_16 rfl rfl ?_
  refine z_iload_n F 2 dX10_owed_17 rfl rfl ?_
  refine z_calli0 F (z_runV (st := []) F zNo_ok trivial (fun sz => c_X5_amountOwed l D g (a 1) (a 2) (a 3) (a 4) (a 5) (a 6) (a 7) am mc hc ne lo x y (by omega) (by omega) sz) (cwV 2 F.1.2.2.2.2 gX10_owed_X5_amountOwed rfl rfl rfl (by decide +kernel) ⟨Nat.le_of_ble_eq_true rfl, Nat.le_of_ble_eq_true rfl⟩) 1 rfl rfl rfl [] [1, 2] rfl rfl (by decide) rfl rfl (Nat.le_of_ble_eq_true rfl) dX10_owed_18 ⟨Nat.le_of_ble_eq_true rfl, Nat.le_of_ble_eq_true rfl⟩) (fun r5 _ hw4 => ?_)
  subst hw4
  refine z_wide (k := 1) (n := 6) (Nat.le_of_ble_eq_true rfl) (Nat.le_of_ble_eq_true rfl) ?_
  refine z_xret hQ ?_
  exact z_iret F hA rfl hlk hr () (⟨hc9, by simp only [z_nn hx8, z_nn hy8]⟩) (rfl) dX10_owed_21
set_option maxHeartbeats 4000000 in
set_option maxRecDepth 100000 in
theorem c_X10_debit (l : Launch) (hl9 : l.stackTraces = false) (D : va_G) (g : Nat → ClassId) (er : Nat → Nat) (a : Nat → Nat) (am : Nat → Int32) (mc : Nat) (hc : Int32) (ne : Int32) (lo : Int32) (hs : Int32) (ep : Int32) (fc : Int32) (v : Int32) (hm : mc ≤ 8) (sz : Nat) : vx_Met l yX10_debit wsX10_debit { frames := 7, cells := 1, slots := 6, locals := 102 } (zPc D (gT g) (zEnv er) [.ref (a 0), .int v] [] [(a 0, .inr (10, [.ref (a 1), .ref (a 8), .ref (a 15), .ref (a 22), .ref (a 24), .ref (a 27), .ref (a 33), .ref (a 91), .ref (a 94), .int hs, .int ep, .int fc])), (a 1, .inr (7, [.ref (a 2), .ref (a 3), .ref (a 4), .ref (a 5), .ref (a 6), .ref (a 7), .int (nI mc), .int hc, .int ne, .int lo])), (a 2, .inl (g 0, 64, .inl am))] sz) (zQi D [] (fun (r : Int32) (_ : Unit) => f_onMember mc v = 0 ∧ r = f_debit am (z_n v)) (fun _ => []) sz) (zXC D [] (fun (E : String) (_ : Unit) => E = zExc (f_onMember mc v) ∧ ¬ (f_onMember mc v) = 0) (fun _ => []) sz) 1 6 (va_A [] sz) := by
  refine z_metX (y := yX10_debit) (XC := zXC D [] (fun (E : String) (_ : Unit) => E = zExc (f_onMember mc v) ∧ ¬ (f_onMember mc v) = 0) (fun _ => [])) (cc := cX10_debit) (nL := 2) (rm := { frames := 7, cells := 1, slots := 6, locals := 102 }) (D := D) (tys := gT g) (wr := [(a 0, .inr (10, [.ref (a 1), .ref (a 8), .ref (a 15), .ref (a 22), .ref (a 24), .ref (a 27), .ref (a 33), .ref (a 91), .ref (a 94), .int hs, .int ep, .int fc])), (a 1, .inr (7, [.ref (a 2), .ref (a 3), .ref (a 4), .ref (a 5), .ref (a 6), .ref (a 7), .int (nI mc), .int hc, .int ne, .int lo])), (a 2, .inl (g 0, 64, .inl am))]) (P0 := zEnv er) (As := [.ref (a 0), .int v]) (ww := []) (Qc := zQi D [] (fun (r : Int32) (_ : Unit) => f_onMember mc v = 0 ∧ r = f_debit am (z_n v)) (fun _ => [])) (ret := (some .int)) (by decide) rfl (Nat.le_of_ble_eq_true rfl) ?_ sz
  intro p e s m args below meth c A Q hA hQ F E hr hlk hx9
  show zW p l e { frames := 7, cells := 1, slots := 6, locals := 102 } s m args below meth c 2 D A Q 0 0 [] [(0, .ref (a 0)), (1, .int v)] [] 0
  refine z_aload_n F 0 dX10_debit_0 rfl rfl ?_
  refine z_get (C := RX10) (T := TX10) (N := 12) F (fun w h => List.mem_cons_of_mem _ (List.mem_append_left _ (List.mem_append_left _ (List.mem_append_left _ (List.mem_append_left _ (List.mem_append_left _ (List.mem_append_left _ (List.mem_append_right _ (h))))))))) 0 rfl rfl 0 (by decide) (List.mem_cons_of_mem _ (List.mem_append_left _ (List.mem_append_left _ (List.mem_append_left _ (List.mem_append_left _ (List.mem_append_left _ (List.mem_append_left _ (List.mem_append_left _ (List.mem_append_left _ (List.mem_of_getElem? (i := 0) rfl)))))))))) rfl rfl dX10_debit_1 ?_
  refine z_iload_n F 1 dX10_debit_4 rfl rfl ?_
  refine z_calle0 F (z_runS (st := []) F (zEnv_ok er) E (fun sz => c_X9_onMember l D g er (a 1) (a 2) (a 3) (a 4) (a 5) (a 6) (a 7) mc hc ne lo v sz) (va_cwS 2 F.1.2.2.2.2 gX10_debit_X9_onMember rfl rfl rfl (by decide +kernel) ⟨Nat.le_of_ble_eq_true rfl, Nat.le_of_ble_eq_true rfl⟩) [] [1] rfl rfl (by decide) rfl rfl (Nat.le_of_ble_eq_true rfl) dX10_debit_5 ⟨Nat.le_of_ble_eq_true rfl, Nat.le_of_ble_eq_true rfl⟩) (fun r2 _ hw1 => ?_)
  subst hw1
  refine z_st (st' := [.ref (er (f_onMember mc v))]) rfl ?_
  refine z_callXv0 F (z_runSX (st := []) F (zEnv_ok er) E (fun sz => c_X10_throwIfRefused l hl9 D g er (f_onMember mc v) (f_onMember_lt mc v) sz) (va_cwS 1 F.1.2.2.2.2 gX10_debit_X10_throwIfRefused rfl rfl rfl (by decide +kernel) ⟨Nat.le_of_ble_eq_true rfl, Nat.le_of_ble_eq_true rfl⟩) [] [] rfl rfl (by decide) rfl rfl (Nat.le_of_ble_eq_true rfl) dX10_debit_8 ⟨Nat.le_of_ble_eq_true rfl, Nat.le_of_ble_eq_true rfl⟩) (fun E9 u9 hx => z_out F hA hQ hx9 hlk () (hx) (rfl) (by first | exact Nat.le_of_ble_eq_true rfl | omega) (by first | exact Nat.le_of_ble_eq_true rfl | omega)) (fun _ hw3 => ?_)
  have hc8 := hw3
  have hC0 := hw3
  obtain ⟨x, hx, e1⟩ := z_onMember hc8 hm
  subst e1
  have hx8 : x < 8 := by omega
  refine z_aload_n F 0 dX10_debit_11 rfl rfl ?_
  refine z_get (C := RX10) (T := TX10) (N := 12) F (fun w h => List.mem_cons_of_mem _ (List.mem_append_left _ (List.mem_append_left _ (List.mem_append_left _ (List.mem_append_left _ (List.mem_append_left _ (List.mem_append_left _ (List.mem_append_right _ (h))))))))) 0 rfl rfl 0 (by decide) (List.mem_cons_of_mem _ (List.mem_append_left _ (List.mem_append_left _ (List.mem_append_left _ (List.mem_append_left _ (List.mem_append_left _ (List.mem_append_left _ (List.mem_append_left _ (List.mem_append_left _ (List.mem_of_getElem? (i := 0) rfl)))))))))) rfl rfl dX10_debit_12 ?_
  refine z_iload_n F 1 dX10_debit_15 rfl rfl ?_
  refine z_calli0 F (z_runV (st := []) F zNo_ok trivial (fun sz => c_X5_debitOf l D g (a 1) (a 2) (a 3) (a 4) (a 5) (a 6) (a 7) am mc hc ne lo x (by omega) sz) (cwV 1 F.1.2.2.2.2 gX10_debit_X5_debitOf rfl rfl rfl (by decide +kernel) ⟨Nat.le_of_ble_eq_true rfl, Nat.le_of_ble_eq_true rfl⟩) 1 rfl rfl rfl [] [1, 2] rfl rfl (by decide) rfl rfl (Nat.le_of_ble_eq_true rfl) dX10_debit_16 ⟨Nat.le_of_ble_eq_true rfl, Nat.le_of_ble_eq_true rfl⟩) (fun r5 _ hw4 => ?_)
  subst hw4
  refine z_wide (k := 1) (n := 6) (Nat.le_of_ble_eq_true rfl) (Nat.le_of_ble_eq_true rfl) ?_
  refine z_xret hQ ?_
  exact z_iret F hA rfl hlk hr () (⟨hc8, by simp only [z_nn hx8]⟩) (rfl) dX10_debit_19
set_option maxHeartbeats 4000000 in
set_option maxRecDepth 100000 in
theorem c_X10_credit (l : Launch) (hl9 : l.stackTraces = false) (D : va_G) (g : Nat → ClassId) (er : Nat → Nat) (a : Nat → Nat) (am : Nat → Int32) (mc : Nat) (hc : Int32) (ne : Int32) (lo : Int32) (hs : Int32) (ep : Int32) (fc : Int32) (v : Int32) (hm : mc ≤ 8) (sz : Nat) : vx_Met l yX10_credit wsX10_credit { frames := 7, cells := 1, slots := 6, locals := 102 } (zPc D (gT g) (zEnv er) [.ref (a 0), .int v] [] [(a 0, .inr (10, [.ref (a 1), .ref (a 8), .ref (a 15), .ref (a 22), .ref (a 24), .ref (a 27), .ref (a 33), .ref (a 91), .ref (a 94), .int hs, .int ep, .int fc])), (a 1, .inr (7, [.ref (a 2), .ref (a 3), .ref (a 4), .ref (a 5), .ref (a 6), .ref (a 7), .int (nI mc), .int hc, .int ne, .int lo])), (a 2, .inl (g 0, 64, .inl am))] sz) (zQi D [] (fun (r : Int32) (_ : Unit) => f_onMember mc v = 0 ∧ r = f_credit am (z_n v)) (fun _ => []) sz) (zXC D [] (fun (E : String) (_ : Unit) => E = zExc (f_onMember mc v) ∧ ¬ (f_onMember mc v) = 0) (fun _ => []) sz) 1 6 (va_A [] sz) := by
  refine z_metX (y := yX10_credit) (XC := zXC D [] (fun (E : String) (_ : Unit) => E = zExc (f_onMember mc v) ∧ ¬ (f_onMember mc v) = 0) (fun _ => [])) (cc := cX10_credit) (nL := 2) (rm := { frames := 7, cells := 1, slots := 6, locals := 102 }) (D := D) (tys := gT g) (wr := [(a 0, .inr (10, [.ref (a 1), .ref (a 8), .ref (a 15), .ref (a 22), .ref (a 24), .ref (a 27), .ref (a 33), .ref (a 91), .ref (a 94), .int hs, .int ep, .int fc])), (a 1, .inr (7, [.ref (a 2), .ref (a 3), .ref (a 4), .ref (a 5), .ref (a 6), .ref (a 7), .int (nI mc), .int hc, .int ne, .int lo])), (a 2, .inl (g 0, 64, .inl am))]) (P0 := zEnv er) (As := [.ref (a 0), .int v]) (ww := []) (Qc := zQi D [] (fun (r : Int32) (_ : Unit) => f_onMember mc v = 0 ∧ r = f_credit am (z_n v)) (fun _ => [])) (ret := (some .int)) (by decide) rfl (Nat.le_of_ble_eq_true rfl) ?_ sz
  intro p e s m args below meth c A Q hA hQ F E hr hlk hx9
  show zW p l e { frames := 7, cells := 1, slots := 6, locals := 102 } s m args below meth c 2 D A Q 0 0 [] [(0, .ref (a 0)), (1, .int v)] [] 0
  refine z_aload_n F 0 dX10_credit_0 rfl rfl ?_
  refine z_get (C := RX10) (T := TX10) (N := 12) F (fun w h => List.mem_cons_of_mem _ (List.mem_append_left _ (List.mem_append_left _ (List.mem_append_left _ (List.mem_append_left _ (List.mem_append_left _ (List.mem_append_left _ (List.mem_append_right _ (h))))))))) 0 rfl rfl 0 (by decide) (List.mem_cons_of_mem _ (List.mem_append_left _ (List.mem_append_left _ (List.mem_append_left _ (List.mem_append_left _ (List.mem_append_left _ (List.mem_append_left _ (List.mem_append_left _ (List.mem_append_left _ (List.mem_of_getElem? (i := 0) rfl)))))))))) rfl rfl dX10_credit_1 ?_
  refine z_iload_n F 1 dX10_credit_4 rfl rfl ?_
  refine z_calle0 F (z_runS (st := []) F (zEnv_ok er) E (fun sz => c_X9_onMember l D g er (a 1) (a 2) (a 3) (a 4) (a 5) (a 6) (a 7) mc hc ne lo v sz) (va_cwS 2 F.1.2.2.2.2 gX10_credit_X9_onMember rfl rfl rfl (by decide +kernel) ⟨Nat.le_of_ble_eq_true rfl, Nat.le_of_ble_eq_true rfl⟩) [] [1] rfl rfl (by decide) rfl rfl (Nat.le_of_ble_eq_true rfl) dX10_credit_5 ⟨Nat.le_of_ble_eq_true rfl, Nat.le_of_ble_eq_true rfl⟩) (fun r2 _ hw1 => ?_)
  subst hw1
  refine z_st (st' := [.ref (er (f_onMember mc v))]) rfl ?_
  refine z_callXv0 F (z_runSX (st := []) F (zEnv_ok er) E (fun sz => c_X10_throwIfRefused l hl9 D g er (f_onMember mc v) (f_onMember_lt mc v) sz) (va_cwS 1 F.1.2.2.2.2 gX10_credit_X10_throwIfRefused rfl rfl rfl (by decide +kernel) ⟨Nat.le_of_ble_eq_true rfl, Nat.le_of_ble_eq_true rfl⟩) [] [] rfl rfl (by decide) rfl rfl (Nat.le_of_ble_eq_true rfl) dX10_credit_8 ⟨Nat.le_of_ble_eq_true rfl, Nat.le_of_ble_eq_true rfl⟩) (fun E9 u9 hx => z_out F hA hQ hx9 hlk () (hx) (rfl) (by first | exact Nat.le_of_ble_eq_true rfl | omega) (by first | exact Nat.le_of_ble_eq_true rfl | omega)) (fun _ hw3 => ?_)
  have hc8 := hw3
  have hC0 := hw3
  obtain ⟨x, hx, e1⟩ := z_onMember hc8 hm
  subst e1
  have hx8 : x < 8 := by omega
  refine z_aload_n F 0 dX10_credit_11 rfl rfl ?_
  refine z_get (C := RX10) (T := TX10) (N := 12) F (fun w h => List.mem_cons_of_mem _ (List.mem_append_left _ (List.mem_append_left _ (List.mem_append_left _ (List.mem_append_left _ (List.mem_append_left _ (List.mem_append_left _ (List.mem_append_right _ (h))))))))) 0 rfl rfl 0 (by decide) (List.mem_cons_of_mem _ (List.mem_append_left _ (List.mem_append_left _ (List.mem_append_left _ (List.mem_append_left _ (List.mem_append_left _ (List.mem_append_left _ (List.mem_append_left _ (List.mem_append_left _ (List.mem_of_getElem? (i := 0) rfl)))))))))) rfl rfl dX10_credit_12 ?_
  refine z_iload_n F 1 dX10_credit_15 rfl rfl ?_
  refine z_calli0 F (z_runV (st := []) F zNo_ok trivial (fun sz => c_X5_creditOf l D g (a 1) (a 2) (a 3) (a 4) (a 5) (a 6) (a 7) am mc hc ne lo x (by omega) sz) (cwV 1 F.1.2.2.2.2 gX10_credit_X5_creditOf rfl rfl rfl (by decide +kernel) ⟨Nat.le_of_ble_eq_true rfl, Nat.le_of_ble_eq_true rfl⟩) 1 rfl rfl rfl [] [1, 2] rfl rfl (by decide) rfl rfl (Nat.le_of_ble_eq_true rfl) dX10_credit_16 ⟨Nat.le_of_ble_eq_true rfl, Nat.le_of_ble_eq_true rfl⟩) (fun r5 _ hw4 => ?_)
  subst hw4
  refine z_wide (k := 1) (n := 6) (Nat.le_of_ble_eq_true rfl) (Nat.le_of_ble_eq_true rfl) ?_
  refine z_xret hQ ?_
  exact z_iret F hA rfl hlk hr () (⟨hc8, by simp only [z_nn hx8]⟩) (rfl) dX10_credit_19
set_option maxHeartbeats 4000000 in
set_option maxRecDepth 100000 in
theorem c_X10_position (l : Launch) (hl9 : l.stackTraces = false) (D : va_G) (g : Nat → ClassId) (er : Nat → Nat) (a : Nat → Nat) (am : Nat → Int32) (mc : Nat) (hc : Int32) (ne : Int32) (lo : Int32) (hs : Int32) (ep : Int32) (fc : Int32) (v : Int32) (hm : mc ≤ 8) (sz : Nat) : vx_Met l yX10_position wsX10_position { frames := 7, cells := 1, slots := 6, locals := 102 } (zPc D (gT g) (zEnv er) [.ref (a 0), .int v] [] [(a 0, .inr (10, [.ref (a 1), .ref (a 8), .ref (a 15), .ref (a 22), .ref (a 24), .ref (a 27), .ref (a 33), .ref (a 91), .ref (a 94), .int hs, .int ep, .int fc])), (a 1, .inr (7, [.ref (a 2), .ref (a 3), .ref (a 4), .ref (a 5), .ref (a 6), .ref (a 7), .int (nI mc), .int hc, .int ne, .int lo])), (a 2, .inl (g 0, 64, .inl am))] sz) (zQi D [] (fun (r : Int32) (_ : Unit) => f_onMember mc v = 0 ∧ r = f_pos am (z_n v)) (fun _ => []) sz) (zXC D [] (fun (E : String) (_ : Unit) => E = zExc (f_onMember mc v) ∧ ¬ (f_onMember mc v) = 0) (fun _ => []) sz) 1 6 (va_A [] sz) := by
  refine z_metX (y := yX10_position) (XC := zXC D [] (fun (E : String) (_ : Unit) => E = zExc (f_onMember mc v) ∧ ¬ (f_onMember mc v) = 0) (fun _ => [])) (cc := cX10_position) (nL := 2) (rm := { frames := 7, cells := 1, slots := 6, locals := 102 }) (D := D) (tys := gT g) (wr := [(a 0, .inr (10, [.ref (a 1), .ref (a 8), .ref (a 15), .ref (a 22), .ref (a 24), .ref (a 27), .ref (a 33), .ref (a 91), .ref (a 94), .int hs, .int ep, .int fc])), (a 1, .inr (7, [.ref (a 2), .ref (a 3), .ref (a 4), .ref (a 5), .ref (a 6), .ref (a 7), .int (nI mc), .int hc, .int ne, .int lo])), (a 2, .inl (g 0, 64, .inl am))]) (P0 := zEnv er) (As := [.ref (a 0), .int v]) (ww := []) (Qc := zQi D [] (fun (r : Int32) (_ : Unit) => f_onMember mc v = 0 ∧ r = f_pos am (z_n v)) (fun _ => [])) (ret := (some .int)) (by decide) rfl (Nat.le_of_ble_eq_true rfl) ?_ sz
  intro p e s m args below meth c A Q hA hQ F E hr hlk hx9
  show zW p l e { frames := 7, cells := 1, slots := 6, locals := 102 } s m args below meth c 2 D A Q 0 0 [] [(0, .ref (a 0)), (1, .int v)] [] 0
  refine z_aload_n F 0 dX10_position_0 rfl rfl ?_
  refine z_get (C := RX10) (T := TX10) (N := 12) F (fun w h => List.mem_cons_of_mem _ (List.mem_append_left _ (List.mem_append_left _ (List.mem_append_left _ (List.mem_append_left _ (List.mem_append_left _ (List.mem_append_left _ (List.mem_append_right _ (h))))))))) 0 rfl rfl 0 (by decide) (List.mem_cons_of_mem _ (List.mem_append_left _ (List.mem_append_left _ (List.mem_append_left _ (List.mem_append_left _ (List.mem_append_left _ (List.mem_append_left _ (List.mem_append_left _ (List.mem_append_left _ (List.mem_of_getElem? (i := 0) rfl)))))))))) rfl rfl dX10_position_1 ?_
  refine z_iload_n F 1 dX10_position_4 rfl rfl ?_
  refine z_calle0 F (z_runS (st := []) F (zEnv_ok er) E (fun sz => c_X9_onMember l D g er (a 1) (a 2) (a 3) (a 4) (a 5) (a 6) (a 7) mc hc ne lo v sz) (va_cwS 2 F.1.2.2.2.2 gX10_position_X9_onMember rfl rfl rfl (by decide +kernel) ⟨Nat.le_of_ble_eq_true rfl, Nat.le_of_ble_eq_true rfl⟩) [] [1] rfl rfl (by decide) rfl rfl (Nat.le_of_ble_eq_true rfl) dX10_position_5 ⟨Nat.le_of_ble_eq_true rfl, Nat.le_of_ble_eq_true rfl⟩) (fun r2 _ hw1 => ?_)
  subst hw1
  refine z_st (st' := [.ref (er (f_onMember mc v))]) rfl ?_
  refine z_callXv0 F (z_runSX (st := []) F (zEnv_ok er) E (fun sz => c_X10_throwIfRefused l hl9 D g er (f_onMember mc v) (f_onMember_lt mc v) sz) (va_cwS 1 F.1.2.2.2.2 gX10_position_X10_throwIfRefused rfl rfl rfl (by decide +kernel) ⟨Nat.le_of_ble_eq_true rfl, Nat.le_of_ble_eq_true rfl⟩) [] [] rfl rfl (by decide) rfl rfl (Nat.le_of_ble_eq_true rfl) dX10_position_8 ⟨Nat.le_of_ble_eq_true rfl, Nat.le_of_ble_eq_true rfl⟩) (fun E9 u9 hx => z_out F hA hQ hx9 hlk () (hx) (rfl) (by first | exact Nat.le_of_ble_eq_true rfl | omega) (by first | exact Nat.le_of_ble_eq_true rfl | omega)) (fun _ hw3 => ?_)
  have hc8 := hw3
  have hC0 := hw3
  obtain ⟨x, hx, e1⟩ := z_onMember hc8 hm
  subst e1
  have hx8 : x < 8 := by omega
  refine z_aload_n F 0 dX10_position_11 rfl rfl ?_
  refine z_get (C := RX10) (T := TX10) (N := 12) F (fun w h => List.mem_cons_of_mem _ (List.mem_append_left _ (List.mem_append_left _ (List.mem_append_left _ (List.mem_append_left _ (List.mem_append_left _ (List.mem_append_left _ (List.mem_append_right _ (h))))))))) 0 rfl rfl 0 (by decide) (List.mem_cons_of_mem _ (List.mem_append_left _ (List.mem_append_left _ (List.mem_append_left _ (List.mem_append_left _ (List.mem_append_left _ (List.mem_append_left _ (List.mem_append_left _ (List.mem_append_left _ (List.mem_of_getElem? (i := 0) rfl)))))))))) rfl rfl dX10_position_12 ?_
  refine z_iload_n F 1 dX10_position_15 rfl rfl ?_
  refine z_calli0 F (z_runV (st := []) F zNo_ok trivial (fun sz => c_X5_positionOf l D g (a 1) (a 2) (a 3) (a 4) (a 5) (a 6) (a 7) am mc hc ne lo x (by omega) sz) (cwV 1 F.1.2.2.2.2 gX10_position_X5_positionOf rfl rfl rfl (by decide +kernel) ⟨Nat.le_of_ble_eq_true rfl, Nat.le_of_ble_eq_true rfl⟩) 1 rfl rfl rfl [] [1, 2] rfl rfl (by decide) rfl rfl (Nat.le_of_ble_eq_true rfl) dX10_position_16 ⟨Nat.le_of_ble_eq_true rfl, Nat.le_of_ble_eq_true rfl⟩) (fun r5 _ hw4 => ?_)
  subst hw4
  refine z_wide (k := 1) (n := 6) (Nat.le_of_ble_eq_true rfl) (Nat.le_of_ble_eq_true rfl) ?_
  refine z_xret hQ ?_
  exact z_iret F hA rfl hlk hr () (⟨hc8, by simp only [z_nn hx8]⟩) (rfl) dX10_position_19
set_option maxHeartbeats 4000000 in
set_option maxRecDepth 100000 in
theorem c_X10_positionByAccount (l : Launch) (hl9 : l.stackTraces = false) (D : va_G) (g : Nat → ClassId) (er : Nat → Nat) (a : Nat → Nat) (ac : Nat → Int32) (mc : Nat) (hc : Int32) (ne : Int32) (lo : Int32) (hs : Int32) (ep : Int32) (fc : Int32) (v : Int32) (hm : mc ≤ 8) (sz : Nat) : vx_Met l yX10_positionByAccount wsX10_positionByAccount { frames := 7, cells := 1, slots := 6, locals := 102 } (zPc D (gT g) (zEnv er) [.ref (a 0), .int v] [] [(a 0, .inr (10, [.ref (a 1), .ref (a 8), .ref (a 15), .ref (a 22), .ref (a 24), .ref (a 27), .ref (a 33), .ref (a 91), .ref (a 94), .int hs, .int ep, .int fc])), (a 1, .inr (7, [.ref (a 2), .ref (a 3), .ref (a 4), .ref (a 5), .ref (a 6), .ref (a 7), .int (nI mc), .int hc, .int ne, .int lo])), (a 6, .inl (g 0, 8, .inl ac))] sz) (zQi D [] (fun (r : Int32) (_ : Unit) => f_onMember mc v = 0 ∧ r = ac (z_n v)) (fun _ => []) sz) (zXC D [] (fun (E : String) (_ : Unit) => E = zExc (f_onMember mc v) ∧ ¬ (f_onMember mc v) = 0) (fun _ => []) sz) 1 6 (va_A [] sz) := by
  refine z_metX (y := yX10_positionByAccount) (XC := zXC D [] (fun (E : String) (_ : Unit) => E = zExc (f_onMember mc v) ∧ ¬ (f_onMember mc v) = 0) (fun _ => [])) (cc := cX10_positionByAccount) (nL := 2) (rm := { frames := 7, cells := 1, slots := 6, locals := 102 }) (D := D) (tys := gT g) (wr := [(a 0, .inr (10, [.ref (a 1), .ref (a 8), .ref (a 15), .ref (a 22), .ref (a 24), .ref (a 27), .ref (a 33), .ref (a 91), .ref (a 94), .int hs, .int ep, .int fc])), (a 1, .inr (7, [.ref (a 2), .ref (a 3), .ref (a 4), .ref (a 5), .ref (a 6), .ref (a 7), .int (nI mc), .int hc, .int ne, .int lo])), (a 6, .inl (g 0, 8, .inl ac))]) (P0 := zEnv er) (As := [.ref (a 0), .int v]) (ww := []) (Qc := zQi D [] (fun (r : Int32) (_ : Unit) => f_onMember mc v = 0 ∧ r = ac (z_n v)) (fun _ => [])) (ret := (some .int)) (by decide) rfl (Nat.le_of_ble_eq_true rfl) ?_ sz
  intro p e s m args below meth c A Q hA hQ F E hr hlk hx9
  show zW p l e { frames := 7, cells := 1, slots := 6, locals := 102 } s m args below meth c 2 D A Q 0 0 [] [(0, .ref (a 0)), (1, .int v)] [] 0
  refine z_aload_n F 0 dX10_positionByAccount_0 rfl rfl ?_
  refine z_get (C := RX10) (T := TX10) (N := 12) F (fun w h => List.mem_cons_of_mem _ (List.mem_append_left _ (List.mem_append_left _ (List.mem_append_left _ (List.mem_append_left _ (List.mem_append_left _ (List.mem_append_left _ (List.mem_append_right _ (h))))))))) 0 rfl rfl 0 (by decide) (List.mem_cons_of_mem _ (List.mem_append_left _ (List.mem_append_left _ (List.mem_append_left _ (List.mem_append_left _ (List.mem_append_left _ (List.mem_append_left _ (List.mem_append_left _ (List.mem_append_left _ (List.mem_of_getElem? (i := 0) rfl)))))))))) rfl rfl dX10_positionByAccount_1 ?_
  refine z_iload_n F 1 dX10_positionByAccount_4 rfl rfl ?_
  refine z_calle0 F (z_runS (st := []) F (zEnv_ok er) E (fun sz => c_X9_onMember l D g er (a 1) (a 2) (a 3) (a 4) (a 5) (a 6) (a 7) mc hc ne lo v sz) (va_cwS 2 F.1.2.2.2.2 gX10_positionByAccount_X9_onMember rfl rfl rfl (by decide +kernel) ⟨Nat.le_of_ble_eq_true rfl, Nat.le_of_ble_eq_true rfl⟩) [] [1] rfl rfl (by decide) rfl rfl (Nat.le_of_ble_eq_true rfl) dX10_positionByAccount_5 ⟨Nat.le_of_ble_eq_true rfl, Nat.le_of_ble_eq_true rfl⟩) (fun r2 _ hw1 => ?_)
  subst hw1
  refine z_st (st' := [.ref (er (f_onMember mc v))]) rfl ?_
  refine z_callXv0 F (z_runSX (st := []) F (zEnv_ok er) E (fun sz => c_X10_throwIfRefused l hl9 D g er (f_onMember mc v) (f_onMember_lt mc v) sz) (va_cwS 1 F.1.2.2.2.2 gX10_positionByAccount_X10_throwIfRefused rfl rfl rfl (by decide +kernel) ⟨Nat.le_of_ble_eq_true rfl, Nat.le_of_ble_eq_true rfl⟩) [] [] rfl rfl (by decide) rfl rfl (Nat.le_of_ble_eq_true rfl) dX10_positionByAccount_8 ⟨Nat.le_of_ble_eq_true rfl, Nat.le_of_ble_eq_true rfl⟩) (fun E9 u9 hx => z_out F hA hQ hx9 hlk () (hx) (rfl) (by first | exact Nat.le_of_ble_eq_true rfl | omega) (by first | exact Nat.le_of_ble_eq_true rfl | omega)) (fun _ hw3 => ?_)
  have hc8 := hw3
  have hC0 := hw3
  obtain ⟨x, hx, e1⟩ := z_onMember hc8 hm
  subst e1
  have hx8 : x < 8 := by omega
  refine z_aload_n F 0 dX10_positionByAccount_11 rfl rfl ?_
  refine z_get (C := RX10) (T := TX10) (N := 12) F (fun w h => List.mem_cons_of_mem _ (List.mem_append_left _ (List.mem_append_left _ (List.mem_append_left _ (List.mem_append_left _ (List.mem_append_left _ (List.mem_append_left _ (List.mem_append_right _ (h))))))))) 0 rfl rfl 0 (by decide) (List.mem_cons_of_mem _ (List.mem_append_left _ (List.mem_append_left _ (List.mem_append_left _ (List.mem_append_left _ (List.mem_append_left _ (List.mem_append_left _ (List.mem_append_left _ (List.mem_append_left _ (List.mem_of_getElem? (i := 0) rfl)))))))))) rfl rfl dX10_positionByAccount_12 ?_
  refine z_getN (C := RX5) (T := TX5) (N := 10) F (fun w h => List.mem_cons_of_mem _ (List.mem_append_left _ (List.mem_append_left _ (List.mem_append_left _ (List.mem_append_left _ (List.mem_append_left _ (List.mem_append_right _ (h)))))))) 1 rfl rfl 4 (by decide) (zEnv.nf E 9 rfl) rfl rfl dX10_positionByAccount_15 ?_
  refine z_iload_n F 1 dX10_positionByAccount_18 rfl rfl ?_
  refine z_ialdN (j := x) F 2 0 rfl rfl (by omega) (by decide) dX10_positionByAccount_19 ?_
  refine z_wide (k := 1) (n := 6) (Nat.le_of_ble_eq_true rfl) (Nat.le_of_ble_eq_true rfl) ?_
  refine z_xret hQ ?_
  exact z_iret F hA rfl hlk hr () (⟨hc8, by simp only [z_nn hx8]⟩) (rfl) dX10_positionByAccount_20
set_option maxHeartbeats 4000000 in
set_option maxRecDepth 100000 in
theorem c_X10_lossIfDefault (l : Launch) (hl9 : l.stackTraces = false) (D : va_G) (g : Nat → ClassId) (er : Nat → Nat) (a : Nat → Nat) (am : Nat → Int32) (co : Nat → Int32) (ca : Nat → Int32) (bo : Nat → Bool) (mc : Nat) (hc : Int32) (ne : Int32) (lo : Int32) (hs : Int32) (ep : Int32) (fc : Int32) (v : Int32) (hm : mc ≤ 8) (sz : Nat) : vx_Met l yX10_lossIfDefault wsX10_lossIfDefault { frames := 7, cells := 1, slots := 6, locals := 102 } (zPc D (gT g) (zEnv er) [.ref (a 0), .int v] [] [(a 0, .inr (10, [.ref (a 1), .ref (a 8), .ref (a 15), .ref (a 22), .ref (a 24), .ref (a 27), .ref (a 33), .ref (a 91), .ref (a 94), .int hs, .int ep, .int fc])), (a 1, .inr (7, [.ref (a 2), .ref (a 3), .ref (a 4), .ref (a 5), .ref (a 6), .ref (a 7), .int (nI mc), .int hc, .int ne, .int lo])), (a 2, .inl (g 0, 64, .inl am)), (a 3, .inl (g 0, 8, .inl co)), (a 4, .inl (g 0, 8, .inl ca)), (a 7, .inl (g 1, 8, .inl ((zBo bo))))] sz) (zQi D [] (fun (r : Int32) (_ : Unit) => f_onDf mc am co ca (zBo bo) hc v = 0 ∧ r = f_loss am co ca hc (z_n v)) (fun _ => []) sz) (zXC D [] (fun (E : String) (_ : Unit) => E = zExc (f_onDf mc am co ca (zBo bo) hc v) ∧ ¬ (f_onDf mc am co ca (zBo bo) hc v) = 0) (fun _ => []) sz) 1 6 (va_A [] sz) := by
  refine z_metX (y := yX10_lossIfDefault) (XC := zXC D [] (fun (E : String) (_ : Unit) => E = zExc (f_onDf mc am co ca (zBo bo) hc v) ∧ ¬ (f_onDf mc am co ca (zBo bo) hc v) = 0) (fun _ => [])) (cc := cX10_lossIfDefault) (nL := 2) (rm := { frames := 7, cells := 1, slots := 6, locals := 102 }) (D := D) (tys := gT g) (wr := [(a 0, .inr (10, [.ref (a 1), .ref (a 8), .ref (a 15), .ref (a 22), .ref (a 24), .ref (a 27), .ref (a 33), .ref (a 91), .ref (a 94), .int hs, .int ep, .int fc])), (a 1, .inr (7, [.ref (a 2), .ref (a 3), .ref (a 4), .ref (a 5), .ref (a 6), .ref (a 7), .int (nI mc), .int hc, .int ne, .int lo])), (a 2, .inl (g 0, 64, .inl am)), (a 3, .inl (g 0, 8, .inl co)), (a 4, .inl (g 0, 8, .inl ca)), (a 7, .inl (g 1, 8, .inl ((zBo bo))))]) (P0 := zEnv er) (As := [.ref (a 0), .int v]) (ww := []) (Qc := zQi D [] (fun (r : Int32) (_ : Unit) => f_onDf mc am co ca (zBo bo) hc v = 0 ∧ r = f_loss am co ca hc (z_n v)) (fun _ => [])) (ret := (some .int)) (by decide) rfl (Nat.le_of_ble_eq_true rfl) ?_ sz
  intro p e s m args below meth c A Q hA hQ F E hr hlk hx9
  show zW p l e { frames := 7, cells := 1, slots := 6, locals := 102 } s m args below meth c 2 D A Q 0 0 [] [(0, .ref (a 0)), (1, .int v)] [] 0
  refine z_aload_n F 0 dX10_lossIfDefault_0 rfl rfl ?_
  refine z_get (C := RX10) (T := TX10) (N := 12) F (fun w h => List.mem_cons_of_mem _ (List.mem_append_left _ (List.mem_append_left _ (List.mem_append_left _ (List.mem_append_left _ (List.mem_append_left _ (List.mem_append_left _ (List.mem_append_right _ (h))))))))) 0 rfl rfl 0 (by decide) (List.mem_cons_of_mem _ (List.mem_append_left _ (List.mem_append_left _ (List.mem_append_left _ (List.mem_append_left _ (List.mem_append_left _ (List.mem_append_left _ (List.mem_append_left _ (List.mem_append_left _ (List.mem_of_getElem? (i := 0) rfl)))))))))) rfl rfl dX10_lossIfDefault_1 ?_
  refine z_iload_n F 1 dX10_lossIfDefault_4 rfl rfl ?_
  refine z_calle0 F (z_runS (st := []) F (zEnv_ok er) E (fun sz => c_X9_onDefault l D g er (a 1) (a 2) (a 3) (a 4) (a 5) (a 6) (a 7) am co ca ((zBo bo)) mc hc ne lo v (by omega) sz) (va_cwS 2 F.1.2.2.2.2 gX10_lossIfDefault_X9_onDefault rfl rfl rfl (by decide +kernel) ⟨Nat.le_of_ble_eq_true rfl, Nat.le_of_ble_eq_true rfl⟩) [] [1, 2, 3, 4, 5] rfl rfl (by decide) rfl rfl (Nat.le_of_ble_eq_true rfl) dX10_lossIfDefault_5 ⟨Nat.le_of_ble_eq_true rfl, Nat.le_of_ble_eq_true rfl⟩) (fun r2 _ hw1 => ?_)
  subst hw1
  refine z_st (st' := [.ref (er (f_onDf mc am co ca ((zBo bo)) hc v))]) rfl ?_
  refine z_callXv0 F (z_runSX (st := []) F (zEnv_ok er) E (fun sz => c_X10_throwIfRefused l hl9 D g er (f_onDf mc am co ca ((zBo bo)) hc v) (f_onDf_lt mc am co ca (zBo bo) hc v) sz) (va_cwS 1 F.1.2.2.2.2 gX10_lossIfDefault_X10_throwIfRefused rfl rfl rfl (by decide +kernel) ⟨Nat.le_of_ble_eq_true rfl, Nat.le_of_ble_eq_true rfl⟩) [] [] rfl rfl (by decide) rfl rfl (Nat.le_of_ble_eq_true rfl) dX10_lossIfDefault_8 ⟨Nat.le_of_ble_eq_true rfl, Nat.le_of_ble_eq_true rfl⟩) (fun E9 u9 hx => z_out F hA hQ hx9 hlk () (hx) (rfl) (by first | exact Nat.le_of_ble_eq_true rfl | omega) (by first | exact Nat.le_of_ble_eq_true rfl | omega)) (fun _ hw3 => ?_)
  have hc8 := hw3
  have hC0 := hw3
  obtain ⟨x, hx, e1⟩ := z_onDf hc8 hm
  subst e1
  have hx8 : x < 8 := by omega
  refine z_aload_n F 0 dX10_lossIfDefault_11 rfl rfl ?_
  refine z_get (C := RX10) (T := TX10) (N := 12) F (fun w h => List.mem_cons_of_mem _ (List.mem_append_left _ (List.mem_append_left _ (List.mem_append_left _ (List.mem_append_left _ (List.mem_append_left _ (List.mem_append_left _ (List.mem_append_right _ (h))))))))) 0 rfl rfl 0 (by decide) (List.mem_cons_of_mem _ (List.mem_append_left _ (List.mem_append_left _ (List.mem_append_left _ (List.mem_append_left _ (List.mem_append_left _ (List.mem_append_left _ (List.mem_append_left _ (List.mem_append_left _ (List.mem_of_getElem? (i := 0) rfl)))))))))) rfl rfl dX10_lossIfDefault_12 ?_
  refine z_iload_n F 1 dX10_lossIfDefault_15 rfl rfl ?_
  refine z_calli0 F (z_runV (st := []) F zNo_ok trivial (fun sz => c_X5_lossOf l D g (a 1) (a 2) (a 3) (a 4) (a 5) (a 6) (a 7) am co ca mc hc ne lo x (by omega) sz) (cwV 1 F.1.2.2.2.2 gX10_lossIfDefault_X5_lossOf rfl rfl rfl (by decide +kernel) ⟨Nat.le_of_ble_eq_true rfl, Nat.le_of_ble_eq_true rfl⟩) 1 rfl rfl rfl [] [1, 2, 3, 4] rfl rfl (by decide) rfl rfl (Nat.le_of_ble_eq_true rfl) dX10_lossIfDefault_16 ⟨Nat.le_of_ble_eq_true rfl, Nat.le_of_ble_eq_true rfl⟩) (fun r5 _ hw4 => ?_)
  subst hw4
  refine z_wide (k := 1) (n := 6) (Nat.le_of_ble_eq_true rfl) (Nat.le_of_ble_eq_true rfl) ?_
  refine z_xret hQ ?_
  exact z_iret F hA rfl hlk hr () (⟨hc8, by simp only [z_nn hx8]⟩) (rfl) dX10_lossIfDefault_19
set_option maxHeartbeats 4000000 in
set_option maxRecDepth 100000 in
theorem c_X10_memberCount (l : Launch) (D : va_G) (g : Nat → ClassId) (er : Nat → Nat) (a : Nat → Nat) (mc : Nat) (hc : Int32) (ne : Int32) (lo : Int32) (hs : Int32) (ep : Int32) (fc : Int32) (hm : mc ≤ 8) (sz : Nat) : Met l yX10_memberCount wsX10_memberCount { frames := 0, cells := 0, slots := 0, locals := 0 } (zPc D (gT g) (zEnv er) [.ref (a 0)] [] [(a 0, .inr (10, [.ref (a 1), .ref (a 8), .ref (a 15), .ref (a 22), .ref (a 24), .ref (a 27), .ref (a 33), .ref (a 91), .ref (a 94), .int hs, .int ep, .int fc])), (a 1, .inr (7, [.ref (a 2), .ref (a 3), .ref (a 4), .ref (a 5), .ref (a 6), .ref (a 7), .int (nI mc), .int hc, .int ne, .int lo]))] sz) (zQi D [] (fun (r : Int32) (_ : Unit) => r = nI mc) (fun _ => []) sz) 0 0 (va_A [] sz) := by
  refine z_met (y := yX10_memberCount) (cc := cX10_memberCount) (nL := 1) (rm := { frames := 0, cells := 0, slots := 0, locals := 0 }) (D := D) (tys := gT g) (wr := [(a 0, .inr (10, [.ref (a 1), .ref (a 8), .ref (a 15), .ref (a 22), .ref (a 24), .ref (a 27), .ref (a 33), .ref (a 91), .ref (a 94), .int hs, .int ep, .int fc])), (a 1, .inr (7, [.ref (a 2), .ref (a 3), .ref (a 4), .ref (a 5), .ref (a 6), .ref (a 7), .int (nI mc), .int hc, .int ne, .int lo]))]) (P0 := zEnv er) (As := [.ref (a 0)]) (ww := []) (Qc := zQi D [] (fun (r : Int32) (_ : Unit) => r = nI mc) (fun _ => [])) (ret := (some .int)) (by decide) rfl (Nat.le_of_ble_eq_true rfl) ?_ sz
  intro p e s m args below meth c A Q hA hQ F E hr hlk hin
  show zW p l e { frames := 0, cells := 0, slots := 0, locals := 0 } s m args below meth c 1 D A Q 0 0 [] [(0, .ref (a 0))] [] 0
  refine z_aload_n F 0 dX10_memberCount_0 rfl rfl ?_
  refine z_get (C := RX10) (T := TX10) (N := 12) F (fun w h => List.mem_cons_of_mem _ (List.mem_append_left _ (List.mem_append_right _ (h)))) 0 rfl rfl 0 (by decide) (List.mem_cons_of_mem _ (List.mem_append_left _ (List.mem_append_left _ (List.mem_of_getElem? (i := 0) rfl)))) rfl rfl dX10_memberCount_1 ?_
  refine z_getN (C := RX5) (T := TX5) (N := 10) F (fun w h => List.mem_cons_of_mem _ (List.mem_append_right _ (h))) 1 rfl rfl 6 (by decide) (zEnv.nf E 14 rfl) rfl rfl dX10_memberCount_4 ?_
  exact z_iret F hA hQ hlk hr () (rfl) (rfl) dX10_memberCount_7
set_option maxHeartbeats 4000000 in
set_option maxRecDepth 100000 in
theorem c_X10_haircut (l : Launch) (D : va_G) (g : Nat → ClassId) (er : Nat → Nat) (a : Nat → Nat) (mc : Nat) (hc : Int32) (ne : Int32) (lo : Int32) (hs : Int32) (ep : Int32) (fc : Int32) (hm : mc ≤ 8) (sz : Nat) : Met l yX10_haircut wsX10_haircut { frames := 0, cells := 0, slots := 0, locals := 0 } (zPc D (gT g) (zEnv er) [.ref (a 0)] [] [(a 0, .inr (10, [.ref (a 1), .ref (a 8), .ref (a 15), .ref (a 22), .ref (a 24), .ref (a 27), .ref (a 33), .ref (a 91), .ref (a 94), .int hs, .int ep, .int fc])), (a 1, .inr (7, [.ref (a 2), .ref (a 3), .ref (a 4), .ref (a 5), .ref (a 6), .ref (a 7), .int (nI mc), .int hc, .int ne, .int lo]))] sz) (zQi D [] (fun (r : Int32) (_ : Unit) => r = hc) (fun _ => []) sz) 0 0 (va_A [] sz) := by
  refine z_met (y := yX10_haircut) (cc := cX10_haircut) (nL := 1) (rm := { frames := 0, cells := 0, slots := 0, locals := 0 }) (D := D) (tys := gT g) (wr := [(a 0, .inr (10, [.ref (a 1), .ref (a 8), .ref (a 15), .ref (a 22), .ref (a 24), .ref (a 27), .ref (a 33), .ref (a 91), .ref (a 94), .int hs, .int ep, .int fc])), (a 1, .inr (7, [.ref (a 2), .ref (a 3), .ref (a 4), .ref (a 5), .ref (a 6), .ref (a 7), .int (nI mc), .int hc, .int ne, .int lo]))]) (P0 := zEnv er) (As := [.ref (a 0)]) (ww := []) (Qc := zQi D [] (fun (r : Int32) (_ : Unit) => r = hc) (fun _ => [])) (ret := (some .int)) (by decide) rfl (Nat.le_of_ble_eq_true rfl) ?_ sz
  intro p e s m args below meth c A Q hA hQ F E hr hlk hin
  show zW p l e { frames := 0, cells := 0, slots := 0, locals := 0 } s m args below meth c 1 D A Q 0 0 [] [(0, .ref (a 0))] [] 0
  refine z_aload_n F 0 dX10_haircut_0 rfl rfl ?_
  refine z_get (C := RX10) (T := TX10) (N := 12) F (fun w h => List.mem_cons_of_mem _ (List.mem_append_left _ (List.mem_append_right _ (h)))) 0 rfl rfl 0 (by decide) (List.mem_cons_of_mem _ (List.mem_append_left _ (List.mem_append_left _ (List.mem_of_getElem? (i := 0) rfl)))) rfl rfl dX10_haircut_1 ?_
  refine z_getN (C := RX5) (T := TX5) (N := 10) F (fun w h => List.mem_cons_of_mem _ (List.mem_append_right _ (h))) 1 rfl rfl 7 (by decide) (zEnv.nf E 15 rfl) rfl rfl dX10_haircut_4 ?_
  exact z_iret F hA hQ hlk hr () (rfl) (rfl) dX10_haircut_7
set_option maxHeartbeats 4000000 in
set_option maxRecDepth 100000 in
theorem c_X10_nettedAmount (l : Launch) (D : va_G) (g : Nat → ClassId) (er : Nat → Nat) (a : Nat → Nat) (mc : Nat) (hc : Int32) (ne : Int32) (lo : Int32) (hs : Int32) (ep : Int32) (fc : Int32) (hm : mc ≤ 8) (sz : Nat) : Met l yX10_nettedAmount wsX10_nettedAmount { frames := 0, cells := 0, slots := 0, locals := 0 } (zPc D (gT g) (zEnv er) [.ref (a 0)] [] [(a 0, .inr (10, [.ref (a 1), .ref (a 8), .ref (a 15), .ref (a 22), .ref (a 24), .ref (a 27), .ref (a 33), .ref (a 91), .ref (a 94), .int hs, .int ep, .int fc])), (a 1, .inr (7, [.ref (a 2), .ref (a 3), .ref (a 4), .ref (a 5), .ref (a 6), .ref (a 7), .int (nI mc), .int hc, .int ne, .int lo]))] sz) (zQi D [] (fun (r : Int32) (_ : Unit) => r = ne) (fun _ => []) sz) 0 0 (va_A [] sz) := by
  refine z_met (y := yX10_nettedAmount) (cc := cX10_nettedAmount) (nL := 1) (rm := { frames := 0, cells := 0, slots := 0, locals := 0 }) (D := D) (tys := gT g) (wr := [(a 0, .inr (10, [.ref (a 1), .ref (a 8), .ref (a 15), .ref (a 22), .ref (a 24), .ref (a 27), .ref (a 33), .ref (a 91), .ref (a 94), .int hs, .int ep, .int fc])), (a 1, .inr (7, [.ref (a 2), .ref (a 3), .ref (a 4), .ref (a 5), .ref (a 6), .ref (a 7), .int (nI mc), .int hc, .int ne, .int lo]))]) (P0 := zEnv er) (As := [.ref (a 0)]) (ww := []) (Qc := zQi D [] (fun (r : Int32) (_ : Unit) => r = ne) (fun _ => [])) (ret := (some .int)) (by decide) rfl (Nat.le_of_ble_eq_true rfl) ?_ sz
  intro p e s m args below meth c A Q hA hQ F E hr hlk hin
  show zW p l e { frames := 0, cells := 0, slots := 0, locals := 0 } s m args below meth c 1 D A Q 0 0 [] [(0, .ref (a 0))] [] 0
  refine z_aload_n F 0 dX10_nettedAmount_0 rfl rfl ?_
  refine z_get (C := RX10) (T := TX10) (N := 12) F (fun w h => List.mem_cons_of_mem _ (List.mem_append_left _ (List.mem_append_right _ (h)))) 0 rfl rfl 0 (by decide) (List.mem_cons_of_mem _ (List.mem_append_left _ (List.mem_append_left _ (List.mem_of_getElem? (i := 0) rfl)))) rfl rfl dX10_nettedAmount_1 ?_
  refine z_getN (C := RX5) (T := TX5) (N := 10) F (fun w h => List.mem_cons_of_mem _ (List.mem_append_right _ (h))) 1 rfl rfl 8 (by decide) (zEnv.nf E 16 rfl) rfl rfl dX10_nettedAmount_4 ?_
  exact z_iret F hA hQ hlk hr () (rfl) (rfl) dX10_nettedAmount_7
set_option maxHeartbeats 4000000 in
set_option maxRecDepth 100000 in
theorem c_X10_lostAmount (l : Launch) (D : va_G) (g : Nat → ClassId) (er : Nat → Nat) (a : Nat → Nat) (mc : Nat) (hc : Int32) (ne : Int32) (lo : Int32) (hs : Int32) (ep : Int32) (fc : Int32) (hm : mc ≤ 8) (sz : Nat) : Met l yX10_lostAmount wsX10_lostAmount { frames := 0, cells := 0, slots := 0, locals := 0 } (zPc D (gT g) (zEnv er) [.ref (a 0)] [] [(a 0, .inr (10, [.ref (a 1), .ref (a 8), .ref (a 15), .ref (a 22), .ref (a 24), .ref (a 27), .ref (a 33), .ref (a 91), .ref (a 94), .int hs, .int ep, .int fc])), (a 1, .inr (7, [.ref (a 2), .ref (a 3), .ref (a 4), .ref (a 5), .ref (a 6), .ref (a 7), .int (nI mc), .int hc, .int ne, .int lo]))] sz) (zQi D [] (fun (r : Int32) (_ : Unit) => r = lo) (fun _ => []) sz) 0 0 (va_A [] sz) := by
  refine z_met (y := yX10_lostAmount) (cc := cX10_lostAmount) (nL := 1) (rm := { frames := 0, cells := 0, slots := 0, locals := 0 }) (D := D) (tys := gT g) (wr := [(a 0, .inr (10, [.ref (a 1), .ref (a 8), .ref (a 15), .ref (a 22), .ref (a 24), .ref (a 27), .ref (a 33), .ref (a 91), .ref (a 94), .int hs, .int ep, .int fc])), (a 1, .inr (7, [.ref (a 2), .ref (a 3), .ref (a 4), .ref (a 5), .ref (a 6), .ref (a 7), .int (nI mc), .int hc, .int ne, .int lo]))]) (P0 := zEnv er) (As := [.ref (a 0)]) (ww := []) (Qc := zQi D [] (fun (r : Int32) (_ : Unit) => r = lo) (fun _ => [])) (ret := (some .int)) (by decide) rfl (Nat.le_of_ble_eq_true rfl) ?_ sz
  intro p e s m args below meth c A Q hA hQ F E hr hlk hin
  show zW p l e { frames := 0, cells := 0, slots := 0, locals := 0 } s m args below meth c 1 D A Q 0 0 [] [(0, .ref (a 0))] [] 0
  refine z_aload_n F 0 dX10_lostAmount_0 rfl rfl ?_
  refine z_get (C := RX10) (T := TX10) (N := 12) F (fun w h => List.mem_cons_of_mem _ (List.mem_append_left _ (List.mem_append_right _ (h)))) 0 rfl rfl 0 (by decide) (List.mem_cons_of_mem _ (List.mem_append_left _ (List.mem_append_left _ (List.mem_of_getElem? (i := 0) rfl)))) rfl rfl dX10_lostAmount_1 ?_
  refine z_getN (C := RX5) (T := TX5) (N := 10) F (fun w h => List.mem_cons_of_mem _ (List.mem_append_right _ (h))) 1 rfl rfl 9 (by decide) (zEnv.nf E 18 rfl) rfl rfl dX10_lostAmount_4 ?_
  exact z_iret F hA hQ hlk hr () (rfl) (rfl) dX10_lostAmount_7
set_option maxHeartbeats 4000000 in
set_option maxRecDepth 100000 in
theorem c_X10_debtCount (l : Launch) (D : va_G) (g : Nat → ClassId) (er : Nat → Nat) (a : Nat → Nat) (am : Nat → Int32) (mc : Nat) (hc : Int32) (ne : Int32) (lo : Int32) (hs : Int32) (ep : Int32) (fc : Int32) (hm : mc ≤ 8) (sz : Nat) : Met l yX10_debtCount wsX10_debtCount { frames := 1, cells := 0, slots := 0, locals := 22 } (zPc D (gT g) (zEnv er) [.ref (a 0)] [] [(a 0, .inr (10, [.ref (a 1), .ref (a 8), .ref (a 15), .ref (a 22), .ref (a 24), .ref (a 27), .ref (a 33), .ref (a 91), .ref (a 94), .int hs, .int ep, .int fc])), (a 1, .inr (7, [.ref (a 2), .ref (a 3), .ref (a 4), .ref (a 5), .ref (a 6), .ref (a 7), .int (nI mc), .int hc, .int ne, .int lo])), (a 2, .inl (g 0, 64, .inl am))] sz) (zQi D [] (fun (r : Int32) (_ : Unit) => r = f_cnt am) (fun _ => []) sz) 0 0 (va_A [] sz) := by
  refine z_met (y := yX10_debtCount) (cc := cX10_debtCount) (nL := 1) (rm := { frames := 1, cells := 0, slots := 0, locals := 22 }) (D := D) (tys := gT g) (wr := [(a 0, .inr (10, [.ref (a 1), .ref (a 8), .ref (a 15), .ref (a 22), .ref (a 24), .ref (a 27), .ref (a 33), .ref (a 91), .ref (a 94), .int hs, .int ep, .int fc])), (a 1, .inr (7, [.ref (a 2), .ref (a 3), .ref (a 4), .ref (a 5), .ref (a 6), .ref (a 7), .int (nI mc), .int hc, .int ne, .int lo])), (a 2, .inl (g 0, 64, .inl am))]) (P0 := zEnv er) (As := [.ref (a 0)]) (ww := []) (Qc := zQi D [] (fun (r : Int32) (_ : Unit) => r = f_cnt am) (fun _ => [])) (ret := (some .int)) (by decide) rfl (Nat.le_of_ble_eq_true rfl) ?_ sz
  intro p e s m args below meth c A Q hA hQ F E hr hlk hin
  show zW p l e { frames := 1, cells := 0, slots := 0, locals := 22 } s m args below meth c 1 D A Q 0 0 [] [(0, .ref (a 0))] [] 0
  refine z_aload_n F 0 dX10_debtCount_0 rfl rfl ?_
  refine z_get (C := RX10) (T := TX10) (N := 12) F (fun w h => List.mem_cons_of_mem _ (List.mem_append_left _ (List.mem_append_left _ (List.mem_append_right _ (h))))) 0 rfl rfl 0 (by decide) (List.mem_cons_of_mem _ (List.mem_append_left _ (List.mem_append_left _ (List.mem_append_left _ (List.mem_of_getElem? (i := 0) rfl))))) rfl rfl dX10_debtCount_1 ?_
  refine z_calli0 F (z_runV (st := []) F zNo_ok trivial (fun sz => c_X5_countDebts l D g (a 1) (a 2) (a 3) (a 4) (a 5) (a 6) (a 7) am mc hc ne lo sz) (cwV 0 F.1.2.2.2.2 gX10_debtCount_X5_countDebts rfl rfl rfl (by decide +kernel) ⟨Nat.le_of_ble_eq_true rfl, Nat.le_of_ble_eq_true rfl⟩) 1 rfl rfl rfl [] [1, 2] rfl rfl (by decide) rfl rfl (Nat.le_of_ble_eq_true rfl) dX10_debtCount_4 ⟨Nat.le_of_ble_eq_true rfl, Nat.le_of_ble_eq_true rfl⟩) (fun r2 _ hw1 => ?_)
  subst hw1
  exact z_iret F hA hQ hlk hr () (rfl) (rfl) dX10_debtCount_7
