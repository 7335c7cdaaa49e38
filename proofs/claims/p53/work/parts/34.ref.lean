/-! COMMANDS REFUSED -/
theorem z_or {i : Nat} (h : i < 8) : ([0, 1, 2, 3, 4, 5, 6, 7] : List Int32).getD i 0 = nI i := by
  have : ∀ i, i < 8 → ([0, 1, 2, 3, 4, 5, 6, 7] : List Int32).getD i 0 = nI i := by decide +kernel
  exact this i h
def f_nm (nc : Nat) (nu : Nat → Int32) (x : Nat) : Int32 := if nI nc ≤ nI x then -1 else nu x
def f_ro (mc : Nat) (am co ca li de : Nat → Int32) (hc : Int32) (a b c : Int32) : Nat → Nat
  | 0 => f_onJoin mc
  | 1 => f_onDebt mc am li de a b c
  | 2 => f_onPay mc am co a b c
  | 3 => f_onPair mc a b
  | 4 => f_onTri mc am a b c
  | 6 => f_onPl mc ca a b
  | 7 => f_onDf mc am co ca de hc a
  | _ => 0
set_option maxHeartbeats 4000000 in
set_option maxRecDepth 100000 in
theorem c_Jx29ce0_ordinal_8abf5 (l : Launch) (D : va_G) (g : Nat → ClassId) (ec : Nat → Nat) (fs : Nat → Nat) (fv : Nat → Nat) (qa : Nat) (i : Nat) (hi : i < 8) (sz : Nat) : Met l yJx29ce0_ordinal_8abf5 wsJx29ce0_ordinal_8abf5 { frames := 0, cells := 0, slots := 0, locals := 0 } (zPc D (gT g) (zCm D g ec fs fv qa) [.ref (ec i)] [] [] sz) (zQi D [] (fun (r : Int32) (_ : Unit) => r = nI i) (fun _ => []) sz) 0 0 (va_A [] sz) := by
  refine z_met (y := yJx29ce0_ordinal_8abf5) (cc := cJx29ce0_ordinal_8abf5) (nL := 1) (rm := { frames := 0, cells := 0, slots := 0, locals := 0 }) (D := D) (tys := gT g) (wr := []) (P0 := zCm D g ec fs fv qa) (As := [.ref (ec i)]) (ww := []) (Qc := zQi D [] (fun (r : Int32) (_ : Unit) => r = nI i) (fun _ => [])) (ret := (some .int)) (by decide) rfl (Nat.le_of_ble_eq_true rfl) ?_ sz
  intro p e s m args below meth c A Q hA hQ F E hr hlk hin
  show zW p l e { frames := 0, cells := 0, slots := 0, locals := 0 } s m args below meth c 1 D A Q 0 0 [] [(0, .ref (ec i))] [] 0
  refine z_aload_n F 0 dJx29ce0_ordinal_8abf5_0 rfl rfl ?_
  refine z_getE (i := i) F E.2.2.1 hi 0 rfl (List.mem_cons_of_mem _ (List.mem_of_getElem? (i := 0) rfl)) dJx29ce0_ordinal_8abf5_1 ?_
  refine z_top (y := nI i) (z_or hi) ?_
  exact z_iret F hA hQ hlk hr () (rfl) (rfl) dJx29ce0_ordinal_8abf5_4
set_option maxHeartbeats 4000000 in
set_option maxRecDepth 100000 in
theorem c_X10_refusalOf (l : Launch) (D : va_G) (g : Nat → ClassId) (er : Nat → Nat) (dg : Nat → Nat) (ec : Nat → Nat) (fs : Nat → Nat) (fv : Nat → Nat) (qa : Nat) (sw : Nat) (a : Nat → Nat) (am : Nat → Int32) (co : Nat → Int32) (ca : Nat → Int32) (li : Nat → Int32) (ac : Nat → Int32) (bo : Nat → Bool) (mc : Nat) (hc : Int32) (ne : Int32) (lo : Int32) (hs : Int32) (ep : Int32) (fc : Int32) (ln : Nat) (nc : Nat) (cc9 : Int32) (re : Nat) (en : Nat) (nu : Nat → Int32) (i : Nat) (hm : mc ≤ 8) (hnc : nc ≤ 3) (hi : i < 8) (sz : Nat) : Met l yX10_refusalOf wsX10_refusalOf { frames := 4, cells := 0, slots := 0, locals := 92 } (zPc D (gT g) (zEnv4 er D g dg ec fs fv qa sw) [.ref (a 0), .ref (ec i)] [] [(a 0, .inr (10, [.ref (a 1), .ref (a 8), .ref (a 15), .ref (a 22), .ref (a 24), .ref (a 27), .ref (a 33), .ref (a 91), .ref (a 94), .int hs, .int ep, .int fc])), (a 1, .inr (7, [.ref (a 2), .ref (a 3), .ref (a 4), .ref (a 5), .ref (a 6), .ref (a 7), .int (nI mc), .int hc, .int ne, .int lo])), (a 2, .inl (g 0, 64, .inl am)), (a 3, .inl (g 0, 8, .inl co)), (a 4, .inl (g 0, 8, .inl ca)), (a 5, .inl (g 0, 8, .inl li)), (a 6, .inl (g 0, 8, .inl ac)), (a 7, .inl (g 1, 8, .inl ((zBo bo)))), (a 91, .inr (5, [.ref (a 92), .ref (a 93), .int (nI ln), .int (nI nc), .int cc9, .int (nI re), .int (nI en)])), (a 93, .inl (g 0, 3, .inl nu))] sz) (zQe er D [] (fun (r : Option Nat) (_ : Unit) => r = some (f_ro mc am co ca li (zBo bo) hc (f_nm nc nu 0) (f_nm nc nu 1) (f_nm nc nu 2) i)) (fun _ => []) sz) 0 0 (va_A [] sz) := by
  refine z_met (y := yX10_refusalOf) (cc := cX10_refusalOf) (nL := 5) (rm := { frames := 4, cells := 0, slots := 0, locals := 92 }) (D := D) (tys := gT g) (wr := [(a 0, .inr (10, [.ref (a 1), .ref (a 8), .ref (a 15), .ref (a 22), .ref (a 24), .ref (a 27), .ref (a 33), .ref (a 91), .ref (a 94), .int hs, .int ep, .int fc])), (a 1, .inr (7, [.ref (a 2), .ref (a 3), .ref (a 4), .ref (a 5), .ref (a 6), .ref (a 7), .int (nI mc), .int hc, .int ne, .int lo])), (a 2, .inl (g 0, 64, .inl am)), (a 3, .inl (g 0, 8, .inl co)), (a 4, .inl (g 0, 8, .inl ca)), (a 5, .inl (g 0, 8, .inl li)), (a 6, .inl (g 0, 8, .inl ac)), (a 7, .inl (g 1, 8, .inl ((zBo bo)))), (a 91, .inr (5, [.ref (a 92), .ref (a 93), .int (nI ln), .int (nI nc), .int cc9, .int (nI re), .int (nI en)])), (a 93, .inl (g 0, 3, .inl nu))]) (P0 := zEnv4 er D g dg ec fs fv qa sw) (As := [.ref (a 0), .ref (ec i)]) (ww := []) (Qc := zQe er D [] (fun (r : Option Nat) (_ : Unit) => r = some (f_ro mc am co ca li (zBo bo) hc (f_nm nc nu 0) (f_nm nc nu 1) (f_nm nc nu 2) i)) (fun _ => [])) (ret := (some (.object "DebtClearing$Refusal"))) (by decide) rfl (Nat.le_of_ble_eq_true rfl) ?_ sz
  intro p e s m args below meth c A Q hA hQ F E hr hlk hin
  show zW p l e { frames := 4, cells := 0, slots := 0, locals := 92 } s m args below meth c 5 D A Q 0 0 [] [(0, .ref (a 0)), (1, .ref (ec i))] [] 0
  refine z_aload_n F 0 dX10_refusalOf_0 rfl rfl ?_
  refine z_get (C := RX10) (T := TX10) (N := 12) F (fun w h => List.mem_cons_of_mem _ (List.mem_append_left _ (List.mem_append_left _ (List.mem_append_left _ (List.mem_append_right _ (h)))))) 0 rfl rfl 7 (by decide) (List.mem_cons_of_mem _ (List.mem_append_left _ (List.mem_append_left _ (List.mem_append_left _ (List.mem_append_left _ (List.mem_append_left _ (List.mem_of_getElem? (i := 0) rfl))))))) rfl rfl dX10_refusalOf_1 ?_
  refine z_iconst (v := 0) F dX10_refusalOf_4 (by decide) ?_
  refine z_calli0 F (z_runV (st := []) F zNo_ok trivial (fun sz => c_X3_numberAt l D g (a 91) (a 92) (a 93) ln nc cc9 re en nu 0 (by decide) (hnc) sz) (cwV 1 F.1.2.2.2.2 gX10_refusalOf_X3_numberAt rfl rfl rfl (by decide +kernel) ⟨Nat.le_of_ble_eq_true rfl, Nat.le_of_ble_eq_true rfl⟩) 8 rfl rfl rfl [] [8, 9] rfl rfl (by decide) rfl rfl (Nat.le_of_ble_eq_true rfl) dX10_refusalOf_5 ⟨Nat.le_of_ble_eq_true rfl, Nat.le_of_ble_eq_true rfl⟩) (fun r2 _ hw1 => ?_)
  subst hw1
  refine z_istore_n (lv' := [(2, .int ((if nI nc ≤ nI 0 then -1 else nu 0))), (0, .ref (a 0)), (1, .ref (ec i))]) F dX10_refusalOf_8 rfl (by decide) rfl ?_
  refine z_aload_n F 1 dX10_refusalOf_9 rfl rfl ?_
  refine z_get (C := RX10) (T := TX10) (N := 12) F (fun w h => List.mem_cons_of_mem _ (List.mem_append_left _ (List.mem_append_left _ (List.mem_append_left _ (List.mem_append_right _ (h)))))) 0 rfl rfl 7 (by decide) (List.mem_cons_of_mem _ (List.mem_append_left _ (List.mem_append_left _ (List.mem_append_left _ (List.mem_append_left _ (List.mem_append_left _ (List.mem_of_getElem? (i := 0) rfl))))))) rfl rfl dX10_refusalOf_10 ?_
  refine z_iconst (v := 1) F dX10_refusalOf_13 (by decide) ?_
  refine z_calli0 F (z_runV (st := []) F zNo_ok trivial (fun sz => c_X3_numberAt l D g (a 91) (a 92) (a 93) ln nc cc9 re en nu 1 (by decide) (hnc) sz) (cwV 1 F.1.2.2.2.2 gX10_refusalOf_X3_numberAt rfl rfl rfl (by decide +kernel) ⟨Nat.le_of_ble_eq_true rfl, Nat.le_of_ble_eq_true rfl⟩) 8 rfl rfl rfl [] [8, 9] rfl rfl (by decide) rfl rfl (Nat.le_of_ble_eq_true rfl) dX10_refusalOf_14 ⟨Nat.le_of_ble_eq_true rfl, Nat.le_of_ble_eq_true rfl⟩) (fun r4 _ hw3 => ?_)
  subst hw3
  refine z_istore_n (lv' := [(3, .int ((if nI nc ≤ nI 1 then -1 else nu 1))), (2, .int ((if nI nc ≤ nI 0 then -1 else nu 0))), (0, .ref (a 0)), (1, .ref (ec i))]) F dX10_refusalOf_17 rfl (by decide) rfl ?_
  refine z_aload_n F 2 dX10_refusalOf_18 rfl rfl ?_
  refine z_get (C := RX10) (T := TX10) (N := 12) F (fun w h => List.mem_cons_of_mem _ (List.mem_append_left _ (List.mem_append_left _ (List.mem_append_left _ (List.mem_append_right _ (h)))))) 0 rfl rfl 7 (by decide) (List.mem_cons_of_mem _ (List.mem_append_left _ (List.mem_append_left _ (List.mem_append_left _ (List.mem_append_left _ (List.mem_append_left _ (List.mem_of_getElem? (i := 0) rfl))))))) rfl rfl dX10_refusalOf_19 ?_
  refine z_iconst (v := 2) F dX10_refusalOf_22 (by decide) ?_
  refine z_calli0 F (z_runV (st := []) F zNo_ok trivial (fun sz => c_X3_numberAt l D g (a 91) (a 92) (a 93) ln nc cc9 re en nu 2 (by decide) (hnc) sz) (cwV 1 F.1.2.2.2.2 gX10_refusalOf_X3_numberAt rfl rfl rfl (by decide +kernel) ⟨Nat.le_of_ble_eq_true rfl, Nat.le_of_ble_eq_true rfl⟩) 8 rfl rfl rfl [] [8, 9] rfl rfl (by decide) rfl rfl (Nat.le_of_ble_eq_true rfl) dX10_refusalOf_23 ⟨Nat.le_of_ble_eq_true rfl, Nat.le_of_ble_eq_true rfl⟩) (fun r6 _ hw5 => ?_)
  subst hw5
  refine z_istore (lv' := [(4, .int ((if nI nc ≤ nI 2 then -1 else nu 2))), (3, .int ((if nI nc ≤ nI 1 then -1 else nu 1))), (2, .int ((if nI nc ≤ nI 0 then -1 else nu 0))), (0, .ref (a 0)), (1, .ref (ec i))]) F dX10_refusalOf_26 (by decide) rfl ?_
  refine z_gets F E.2.1 (List.mem_cons_of_mem _ (List.mem_append_left _ (List.mem_append_left _ (List.mem_append_left _ (List.mem_append_left _ (List.mem_append_left _ (List.mem_of_getElem? (i := 1) rfl))))))) dX10_refusalOf_28 ?_
  refine z_aload_n F 4 dX10_refusalOf_31 rfl rfl ?_
  refine z_calli0 F (z_runUE (st := [.ref sw]) F (zCm_ok D g ec fs fv qa) E.1.2 E.1.2.2.2.1 hi (fun sz => c_Jx29ce0_ordinal_8abf5 l D g ec fs fv qa i hi sz) (va_cwU 0 F.1.2.2.2.2 gX10_refusalOf_Jx29ce0_ordinal_8abf5_u390X2 rfl rfl rfl rfl (by decide +kernel) ⟨Nat.le_of_ble_eq_true rfl, Nat.le_of_ble_eq_true rfl⟩) rfl (Nat.le_of_ble_eq_true rfl) dX10_refusalOf_32 ⟨Nat.le_of_ble_eq_true rfl, Nat.le_of_ble_eq_true rfl⟩) (fun r8 _ hw7 => ?_)
  subst hw7
  refine z_ialdE (j := i) F E.2.2 hi (by decide) dX10_refusalOf_35 ?_
  rcases (by omega : i = 0 ∨ i = 1 ∨ i = 2 ∨ i = 3 ∨ i = 4 ∨ i = 5 ∨ i = 6 ∨ i = 7) with rfl | rfl | rfl | rfl | rfl | rfl | rfl | rfl
  · refine z_tabIn (off := 44) (tgt := 80) F dX10_refusalOf_36 (by decide) (by decide) (by decide) (by decide) ?_
    refine z_aload_n F 3 dX10_refusalOf_80 rfl rfl ?_
    refine z_get (C := RX10) (T := TX10) (N := 12) F (fun w h => List.mem_cons_of_mem _ (List.mem_append_left _ (List.mem_append_left _ (List.mem_append_left _ (List.mem_append_right _ (h)))))) 0 rfl rfl 0 (by decide) (List.mem_cons_of_mem _ (List.mem_append_left _ (List.mem_append_left _ (List.mem_append_left _ (List.mem_append_left _ (List.mem_append_left _ (List.mem_of_getElem? (i := 2) rfl))))))) rfl rfl dX10_refusalOf_81 ?_
    refine z_calle0 F (z_runS (st := []) F (zEnv_ok er) E.1.1.1 (fun sz => c_X9_onJoining l D g er (a 1) (a 2) (a 3) (a 4) (a 5) (a 6) (a 7) mc hc ne lo sz) (va_cwS 1 F.1.2.2.2.2 gX10_refusalOf_X9_onJoining rfl rfl rfl (by decide +kernel) ⟨Nat.le_of_ble_eq_true rfl, Nat.le_of_ble_eq_true rfl⟩) [] [1] rfl rfl (by decide) rfl rfl (Nat.le_of_ble_eq_true rfl) dX10_refusalOf_84 ⟨Nat.le_of_ble_eq_true rfl, Nat.le_of_ble_eq_true rfl⟩) (fun r10 _ hw9 => ?_)
    subst hw9
    refine z_st (st' := [.ref (er (f_onJoin mc))]) rfl ?_
    exact z_eret F hA hQ hlk hr (v := some (f_onJoin mc)) rfl () (rfl) (rfl) dX10_refusalOf_87
  · refine z_tabIn (off := 52) (tgt := 88) F dX10_refusalOf_36 (by decide) (by decide) (by decide) (by decide) ?_
    refine z_aload_n F 3 dX10_refusalOf_88 rfl rfl ?_
    refine z_get (C := RX10) (T := TX10) (N := 12) F (fun w h => List.mem_cons_of_mem _ (List.mem_append_left _ (List.mem_append_left _ (List.mem_append_left _ (List.mem_append_right _ (h)))))) 0 rfl rfl 0 (by decide) (List.mem_cons_of_mem _ (List.mem_append_left _ (List.mem_append_left _ (List.mem_append_left _ (List.mem_append_left _ (List.mem_append_left _ (List.mem_of_getElem? (i := 2) rfl))))))) rfl rfl dX10_refusalOf_89 ?_
    refine z_iload_n F 2 dX10_refusalOf_92 rfl rfl ?_
    refine z_iload_n F 1 dX10_refusalOf_93 rfl rfl ?_
    refine z_iload F 0 dX10_refusalOf_94 rfl ?_
    refine z_calle0 F (z_runS (st := []) F (zEnv_ok er) E.1.1.1 (fun sz => c_X9_onDebt l D g er (a 1) (a 2) (a 3) (a 4) (a 5) (a 6) (a 7) am li ((zBo bo)) mc hc ne lo ((if nI nc ≤ nI 0 then -1 else nu 0)) ((if nI nc ≤ nI 1 then -1 else nu 1)) ((if nI nc ≤ nI 2 then -1 else nu 2)) (by omega) sz) (va_cwS 4 F.1.2.2.2.2 gX10_refusalOf_X9_onDebt rfl rfl rfl (by decide +kernel) ⟨Nat.le_of_ble_eq_true rfl, Nat.le_of_ble_eq_true rfl⟩) [] [1, 2, 5, 7] rfl rfl (by decide) rfl rfl (Nat.le_of_ble_eq_true rfl) dX10_refusalOf_96 ⟨Nat.le_of_ble_eq_true rfl, Nat.le_of_ble_eq_true rfl⟩) (fun r12 _ hw11 => ?_)
    subst hw11
    refine z_st (st' := [.ref (er (f_onDebt mc am li ((zBo bo)) ((if nI nc ≤ nI 0 then -1 else nu 0)) ((if nI nc ≤ nI 1 then -1 else nu 1)) ((if nI nc ≤ nI 2 then -1 else nu 2))))]) rfl ?_
    exact z_eret F hA hQ hlk hr (v := some (f_onDebt mc am li ((zBo bo)) ((if nI nc ≤ nI 0 then -1 else nu 0)) ((if nI nc ≤ nI 1 then -1 else nu 1)) ((if nI nc ≤ nI 2 then -1 else nu 2)))) rfl () (rfl) (rfl) dX10_refusalOf_99
  · refine z_tabIn (off := 64) (tgt := 100) F dX10_refusalOf_36 (by decide) (by decide) (by decide) (by decide) ?_
    refine z_aload_n F 3 dX10_refusalOf_100 rfl rfl ?_
    refine z_get (C := RX10) (T := TX10) (N := 12) F (fun w h => List.mem_cons_of_mem _ (List.mem_append_left _ (List.mem_append_left _ (List.mem_append_left _ (List.mem_append_right _ (h)))))) 0 rfl rfl 0 (by decide) (List.mem_cons_of_mem _ (List.mem_append_left _ (List.mem_append_left _ (List.mem_append_left _ (List.mem_append_left _ (List.mem_append_left _ (List.mem_of_getElem? (i := 2) rfl))))))) rfl rfl dX10_refusalOf_101 ?_
    refine z_iload_n F 2 dX10_refusalOf_104 rfl rfl ?_
    refine z_iload_n F 1 dX10_refusalOf_105 rfl rfl ?_
    refine z_iload F 0 dX10_refusalOf_106 rfl ?_
    refine z_calle0 F (z_runS (st := []) F (zEnv_ok er) E.1.1.1 (fun sz => c_X9_onPayment l D g er (a 1) (a 2) (a 3) (a 4) (a 5) (a 6) (a 7) am co mc hc ne lo ((if nI nc ≤ nI 0 then -1 else nu 0)) ((if nI nc ≤ nI 1 then -1 else nu 1)) ((if nI nc ≤ nI 2 then -1 else nu 2)) (by omega) sz) (va_cwS 4 F.1.2.2.2.2 gX10_refusalOf_X9_onPayment rfl rfl rfl (by decide +kernel) ⟨Nat.le_of_ble_eq_true rfl, Nat.le_of_ble_eq_true rfl⟩) [] [1, 2, 3] rfl rfl (by decide) rfl rfl (Nat.le_of_ble_eq_true rfl) dX10_refusalOf_108 ⟨Nat.le_of_ble_eq_true rfl, Nat.le_of_ble_eq_true rfl⟩) (fun r14 _ hw13 => ?_)
    subst hw13
    refine z_st (st' := [.ref (er (f_onPay mc am co ((if nI nc ≤ nI 0 then -1 else nu 0)) ((if nI nc ≤ nI 1 then -1 else nu 1)) ((if nI nc ≤ nI 2 then -1 else nu 2))))]) rfl ?_
    exact z_eret F hA hQ hlk hr (v := some (f_onPay mc am co ((if nI nc ≤ nI 0 then -1 else nu 0)) ((if nI nc ≤ nI 1 then -1 else nu 1)) ((if nI nc ≤ nI 2 then -1 else nu 2)))) rfl () (rfl) (rfl) dX10_refusalOf_111
  · refine z_tabIn (off := 76) (tgt := 112) F dX10_refusalOf_36 (by decide) (by decide) (by decide) (by decide) ?_
    refine z_aload_n F 3 dX10_refusalOf_112 rfl rfl ?_
    refine z_get (C := RX10) (T := TX10) (N := 12) F (fun w h => List.mem_cons_of_mem _ (List.mem_append_left _ (List.mem_append_left _ (List.mem_append_left _ (List.mem_append_right _ (h)))))) 0 rfl rfl 0 (by decide) (List.mem_cons_of_mem _ (List.mem_append_left _ (List.mem_append_left _ (List.mem_append_left _ (List.mem_append_left _ (List.mem_append_left _ (List.mem_of_getElem? (i := 2) rfl))))))) rfl rfl dX10_refusalOf_113 ?_
    refine z_iload_n F 2 dX10_refusalOf_116 rfl rfl ?_
    refine z_iload_n F 1 dX10_refusalOf_117 rfl rfl ?_
    refine z_calle0 F (z_runS (st := []) F (zEnv_ok er) E.1.1.1 (fun sz => c_X9_onPair l D g er (a 1) (a 2) (a 3) (a 4) (a 5) (a 6) (a 7) mc hc ne lo ((if nI nc ≤ nI 0 then -1 else nu 0)) ((if nI nc ≤ nI 1 then -1 else nu 1)) sz) (va_cwS 3 F.1.2.2.2.2 gX10_refusalOf_X9_onPair rfl rfl rfl (by decide +kernel) ⟨Nat.le_of_ble_eq_true rfl, Nat.le_of_ble_eq_true rfl⟩) [] [1] rfl rfl (by decide) rfl rfl (Nat.le_of_ble_eq_true rfl) dX10_refusalOf_118 ⟨Nat.le_of_ble_eq_true rfl, Nat.le_of_ble_eq_true rfl⟩) (fun r16 _ hw15 => ?_)
    subst hw15
    refine z_st (st' := [.ref (er (f_onPair mc ((if nI nc ≤ nI 0 then -1 else nu 0)) ((if nI nc ≤ nI 1 then -1 else nu 1))))]) rfl ?_
    exact z_eret F hA hQ hlk hr (v := some (f_onPair mc ((if nI nc ≤ nI 0 then -1 else nu 0)) ((if nI nc ≤ nI 1 then -1 else nu 1)))) rfl () (rfl) (rfl) dX10_refusalOf_121
  · refine z_tabIn (off := 86) (tgt := 122) F dX10_refusalOf_36 (by decide) (by decide) (by decide) (by decide) ?_
    refine z_aload_n F 3 dX10_refusalOf_122 rfl rfl ?_
    refine z_get (C := RX10) (T := TX10) (N := 12) F (fun w h => List.mem_cons_of_mem _ (List.mem_append_left _ (List.mem_append_left _ (List.mem_append_left _ (List.mem_append_right _ (h)))))) 0 rfl rfl 0 (by decide) (List.mem_cons_of_mem _ (List.mem_append_left _ (List.mem_append_left _ (List.mem_append_left _ (List.mem_append_left _ (List.mem_append_left _ (List.mem_of_getElem? (i := 2) rfl))))))) rfl rfl dX10_refusalOf_123 ?_
    refine z_iload_n F 2 dX10_refusalOf_126 rfl rfl ?_
    refine z_iload_n F 1 dX10_refusalOf_127 rfl rfl ?_
    refine z_iload F 0 dX10_refusalOf_128 rfl ?_
    refine z_calle0 F (z_runS (st := []) F (zEnv_ok er) E.1.1.1 (fun sz => c_X9_onTriangle l D g er (a 1) (a 2) (a 3) (a 4) (a 5) (a 6) (a 7) am mc hc ne lo ((if nI nc ≤ nI 0 then -1 else nu 0)) ((if nI nc ≤ nI 1 then -1 else nu 1)) ((if nI nc ≤ nI 2 then -1 else nu 2)) (by omega) sz) (va_cwS 4 F.1.2.2.2.2 gX10_refusalOf_X9_onTriangle rfl rfl rfl (by decide +kernel) ⟨Nat.le_of_ble_eq_true rfl, Nat.le_of_ble_eq_true rfl⟩) [] [1, 2] rfl rfl (by decide) rfl rfl (Nat.le_of_ble_eq_true rfl) dX10_refusalOf_130 ⟨Nat.le_of_ble_eq_true rfl, Nat.le_of_ble_eq_true rfl⟩) (fun r18 _ hw17 => ?_)
    subst hw17
    refine z_st (st' := [.ref (er (f_onTri mc am ((if nI nc ≤ nI 0 then -1 else nu 0)) ((if nI nc ≤ nI 1 then -1 else nu 1)) ((if nI nc ≤ nI 2 then -1 else nu 2))))]) rfl ?_
    exact z_eret F hA hQ hlk hr (v := some (f_onTri mc am ((if nI nc ≤ nI 0 then -1 else nu 0)) ((if nI nc ≤ nI 1 then -1 else nu 1)) ((if nI nc ≤ nI 2 then -1 else nu 2)))) rfl () (rfl) (rfl) dX10_refusalOf_133
  · refine z_tabOut (tgt := 153) F dX10_refusalOf_36 (by decide) (by decide) ?_
    refine z_getsE F (zEnv.ref E.1.1.1) 0 (by decide) rfl (List.mem_cons_of_mem _ (List.mem_append_left _ (List.mem_append_left _ (List.mem_append_left _ (List.mem_append_left _ (List.mem_append_left _ (List.mem_of_getElem? (i := 3) rfl))))))) dX10_refusalOf_153 ?_
    exact z_eret F hA hQ hlk hr (v := some 0) rfl () (rfl) (rfl) dX10_refusalOf_156
  · refine z_tabIn (off := 98) (tgt := 134) F dX10_refusalOf_36 (by decide) (by decide) (by decide) (by decide) ?_
    refine z_aload_n F 3 dX10_refusalOf_134 rfl rfl ?_
    refine z_get (C := RX10) (T := TX10) (N := 12) F (fun w h => List.mem_cons_of_mem _ (List.mem_append_left _ (List.mem_append_left _ (List.mem_append_left _ (List.mem_append_right _ (h)))))) 0 rfl rfl 0 (by decide) (List.mem_cons_of_mem _ (List.mem_append_left _ (List.mem_append_left _ (List.mem_append_left _ (List.mem_append_left _ (List.mem_append_left _ (List.mem_of_getElem? (i := 2) rfl))))))) rfl rfl dX10_refusalOf_135 ?_
    refine z_iload_n F 2 dX10_refusalOf_138 rfl rfl ?_
    refine z_iload_n F 1 dX10_refusalOf_139 rfl rfl ?_
    refine z_calle0 F (z_runS (st := []) F (zEnv_ok er) E.1.1.1 (fun sz => c_X9_onPledge l D g er (a 1) (a 2) (a 3) (a 4) (a 5) (a 6) (a 7) ca mc hc ne lo ((if nI nc ≤ nI 0 then -1 else nu 0)) ((if nI nc ≤ nI 1 then -1 else nu 1)) (by omega) sz) (va_cwS 3 F.1.2.2.2.2 gX10_refusalOf_X9_onPledge rfl rfl rfl (by decide +kernel) ⟨Nat.le_of_ble_eq_true rfl, Nat.le_of_ble_eq_true rfl⟩) [] [1, 4] rfl rfl (by decide) rfl rfl (Nat.le_of_ble_eq_true rfl) dX10_refusalOf_140 ⟨Nat.le_of_ble_eq_true rfl, Nat.le_of_ble_eq_true rfl⟩) (fun r20 _ hw19 => ?_)
    subst hw19
    refine z_st (st' := [.ref (er (f_onPl mc ca ((if nI nc ≤ nI 0 then -1 else nu 0)) ((if nI nc ≤ nI 1 then -1 else nu 1))))]) rfl ?_
    exact z_eret F hA hQ hlk hr (v := some (f_onPl mc ca ((if nI nc ≤ nI 0 then -1 else nu 0)) ((if nI nc ≤ nI 1 then -1 else nu 1)))) rfl () (rfl) (rfl) dX10_refusalOf_143
  · refine z_tabIn (off := 108) (tgt := 144) F dX10_refusalOf_36 (by decide) (by decide) (by decide) (by decide) ?_
    refine z_aload_n F 3 dX10_refusalOf_144 rfl rfl ?_
    refine z_get (C := RX10) (T := TX10) (N := 12) F (fun w h => List.mem_cons_of_mem _ (List.mem_append_left _ (List.mem_append_left _ (List.mem_append_left _ (List.mem_append_right _ (h)))))) 0 rfl rfl 0 (by decide) (List.mem_cons_of_mem _ (List.mem_append_left _ (List.mem_append_left _ (List.mem_append_left _ (List.mem_append_left _ (List.mem_append_left _ (List.mem_of_getElem? (i := 2) rfl))))))) rfl rfl dX10_refusalOf_145 ?_
    refine z_iload_n F 2 dX10_refusalOf_148 rfl rfl ?_
    refine z_calle0 F (z_runS (st := []) F (zEnv_ok er) E.1.1.1 (fun sz => c_X9_onDefault l D g er (a 1) (a 2) (a 3) (a 4) (a 5) (a 6) (a 7) am co ca ((zBo bo)) mc hc ne lo ((if nI nc ≤ nI 0 then -1 else nu 0)) (by omega) sz) (va_cwS 2 F.1.2.2.2.2 gX10_refusalOf_X9_onDefault rfl rfl rfl (by decide +kernel) ⟨Nat.le_of_ble_eq_true rfl, Nat.le_of_ble_eq_true rfl⟩) [] [1, 2, 3, 4, 7] rfl rfl (by decide) rfl rfl (Nat.le_of_ble_eq_true rfl) dX10_refusalOf_149 ⟨Nat.le_of_ble_eq_true rfl, Nat.le_of_ble_eq_true rfl⟩) (fun r22 _ hw21 => ?_)
    subst hw21
    refine z_st (st' := [.ref (er (f_onDf mc am co ca ((zBo bo)) hc ((if nI nc ≤ nI 0 then -1 else nu 0))))]) rfl ?_
    exact z_eret F hA hQ hlk hr (v := some (f_onDf mc am co ca ((zBo bo)) hc ((if nI nc ≤ nI 0 then -1 else nu 0)))) rfl () (rfl) (rfl) dX10_refusalOf_152
