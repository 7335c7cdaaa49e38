/-! NETWORK -/
def f_mat (am : Nat → Int32) : Nat → Int32 := fun k => if am k ≤ 0 then 0 else 1
def f_owes (mt : Nat → Int32) (x y : Nat) : Int32 := if mt (8 * x + y) = 1 then 1 else 0
def f_bc1 (v : Int32) : Int32 := v - ((v.toUInt32 >>> ((1 : Int32).toUInt32 &&& Int32.toUInt32 31)).toInt32 &&& 1431655765)
def f_bc2 (v : Int32) : Int32 := (v &&& 858993459) + ((v.toUInt32 >>> ((2 : Int32).toUInt32 &&& Int32.toUInt32 31)).toInt32 &&& 858993459)
def f_bc3 (v : Int32) : Int32 := (v + (v.toUInt32 >>> ((4 : Int32).toUInt32 &&& Int32.toUInt32 31)).toInt32) &&& 252645135
def f_bc4 (v : Int32) : Int32 := v + (v.toUInt32 >>> ((8 : Int32).toUInt32 &&& Int32.toUInt32 31)).toInt32
def f_bc5 (v : Int32) : Int32 := v + (v.toUInt32 >>> ((16 : Int32).toUInt32 &&& Int32.toUInt32 31)).toInt32
def f_bc (v : Int32) : Int32 := f_bc5 (f_bc4 (f_bc3 (f_bc2 (f_bc1 v)))) &&& 63
def f_fl1 (mt : Nat → Int32) (n i : Nat) (s : Int32 × Nat × (Nat → Nat)) : Int32 × Nat × (Nat → Nat) :=
  if s.1 &&& (1 <<< (nI i &&& 31)) = 0 then (if f_owes mt (s.2.2 n) i = 0 then s else if 8 ≤ s.2.1 then s else (s.1 ||| (1 <<< (nI i &&& 31)), s.2.1 + 1, fun k => if k = s.2.1 then i else s.2.2 k)) else s
def f_flI (mt : Nat → Int32) (n : Nat) (s : Int32 × Nat × (Nat → Nat)) : Nat → Int32 × Nat × (Nat → Nat) | 0 => s | i + 1 => f_fl1 mt n i (f_flI mt n s i)
def f_flF (mt : Nat → Int32) : Nat → Nat → Int32 × Nat × (Nat → Nat) → Int32 | 0, _, s => s.1 | k + 1, n, s => if s.2.1 ≤ n then s.1 else f_flF mt k (n + 1) (f_flI mt n s 8)
def f_follow (mt : Nat → Int32) (x : Nat) : Int32 := f_flF mt 8 0 (1 <<< (nI x &&& 31), 1, fun _ => x)
theorem z_qu {qu : Nat → Int32} {L : Nat → Nat} {fo i : Nat} (h : ∀ k, k < fo → qu k = nI (L k) ∧ L k < 8) (hi : i < 8) : ∀ k, k < fo + 1 → upd qu fo (nI i) k = nI ((fun k => if k = fo then i else L k) k) ∧ (fun k => if k = fo then i else L k) k < 8 := fun k hk => by
  by_cases q : k = fo
  · subst q
    dsimp only
    rw [pk_us, if_pos rfl]
    exact ⟨rfl, hi⟩
  · dsimp only
    rw [pk_un q, if_neg q]
    exact h k (by omega)
def f_t3 (mt : Nat → Int32) (a b t : Nat) (v : Int32) : Int32 := if f_owes mt a b = 0 then v else if f_owes mt b t = 0 then v else if f_owes mt t a = 0 then v else v + 1
def f_tr3 (mt : Nat → Int32) (a b : Nat) (v : Int32) : Nat → Int32 := z_for (a + 1) (fun t v => f_t3 mt a b t v) v
def f_tr2 (mt : Nat → Int32) (a : Nat) (v : Int32) : Nat → Int32 := z_for (a + 1) (fun b v => f_tr3 mt a b v (7 - a)) v
def f_tri (mt : Nat → Int32) : Int32 := z_for 0 (fun a v => f_tr2 mt a v (7 - a)) 0 8
set_option maxHeartbeats 4000000 in
set_option maxRecDepth 100000 in
theorem c_X6_drawMatrix (l : Launch) (D : va_G) (g : Nat → ClassId) (er : Nat → Nat) (k0 : Nat) (k1 : Nat) (k2 : Nat) (k3 : Nat) (k4 : Nat) (k5 : Nat) (mt : Nat → Int32) (q0 : Nat) (q1 : Nat) (q2 : Nat) (q3 : Nat) (q4 : Nat) (q5 : Nat) (q6 : Nat) (am : Nat → Int32) (mc : Nat) (hc : Int32) (ne : Int32) (lo : Int32) (sz : Nat) : Met l yX6_drawMatrix wsX6_drawMatrix { frames := 0, cells := 0, slots := 0, locals := 0 } (zPc D (gT g) (zEnv er) [.ref k0, .ref q0] [(k1, .inl (g 0, 64, .inl mt))] [(k0, .inr (8, [.ref k1, .ref k2, .ref k3, .ref k4, .ref k5])), (q0, .inr (7, [.ref q1, .ref q2, .ref q3, .ref q4, .ref q5, .ref q6, .int (nI mc), .int hc, .int ne, .int lo])), (q1, .inl (g 0, 64, .inl am))] sz) (zQv D [(k1, .inl (g 0, 64, .inl mt))] (fun (_ : Unit) => True) (fun _ => [(k1, .inl (g 0, 64, .inl (f_mat am)))]) sz) 0 0 (va_A [(k1, .inl (g 0, 64, .inl mt))] sz) := by
  refine z_met (y := yX6_drawMatrix) (cc := cX6_drawMatrix) (nL := 3) (rm := { frames := 0, cells := 0, slots := 0, locals := 0 }) (D := D) (tys := gT g) (wr := [(k0, .inr (8, [.ref k1, .ref k2, .ref k3, .ref k4, .ref k5])), (q0, .inr (7, [.ref q1, .ref q2, .ref q3, .ref q4, .ref q5, .ref q6, .int (nI mc), .int hc, .int ne, .int lo])), (q1, .inl (g 0, 64, .inl am))]) (P0 := zEnv er) (As := [.ref k0, .ref q0]) (ww := [(k1, .inl (g 0, 64, .inl mt))]) (Qc := zQv D [(k1, .inl (g 0, 64, .inl mt))] (fun (_ : Unit) => True) (fun _ => [(k1, .inl (g 0, 64, .inl (f_mat am)))])) (ret := none) (by decide) rfl (Nat.le_of_ble_eq_true rfl) ?_ sz
  intro p e s m args below meth c A Q hA hQ F E hr hlk hin
  have L2 : ∀ (N2_ : Nat) (i : Nat) (mt1 : Nat → Int32) (hN2_ : 64 - i < N2_) (hi : i ≤ 64) (hv : ∀ k, k < i → mt1 k = f_mat am k), zW p l e { frames := 0, cells := 0, slots := 0, locals := 0 } s m args below meth c 3 D A Q 0 0 [(k1, .inl (g 0, 64, .inl mt1))] [(0, .ref k0), (1, .ref q0), (2, .int (nI i))] [] 2 := by
    intro N2_
    induction N2_ with
    | zero =>
      intro i mt1 hN2_
      exact absurd hN2_ (Nat.not_lt_zero _)
    | succ N2_ ih2 =>
      intro i mt1 hN2_ hi hv
      refine z_iload_n F 2 dX6_drawMatrix_2 rfl rfl ?_
      refine z_bipush (v := 64) F dX6_drawMatrix_3 (by decide) ?_
      refine z_icmp_ge (tgt := 34) F dX6_drawMatrix_5 (by decide) (fun c1 => ?_) (fun c1 => ?_)
      · have hi8 : i = 64 := by have := z_ge (by omega) (by decide) (show nI 64 ≤ nI i from c1); omega
        rw [hi8] at hv
        refine z_cext (f' := f_mat am) (ws' := [(k1, .inl (g 0, 64, .inl (f_mat am)))]) 0 rfl (hv) rfl ?_
        exact z_vret F hA hQ hlk hr () (trivial) (rfl) dX6_drawMatrix_34
      · have hi8 : i < 64 := z_lt (by omega) (by decide) c1
        refine z_aload_n F 0 dX6_drawMatrix_8 rfl rfl ?_
        refine z_get (C := RX6) (T := TX6) (N := 5) F (fun w h => List.mem_cons_of_mem _ (List.mem_append_left _ (List.mem_append_left _ (List.mem_append_right _ (h))))) 1 rfl rfl 0 (by decide) (List.mem_cons_of_mem _ (List.mem_append_left _ (List.mem_append_left _ (List.mem_append_left _ (List.mem_of_getElem? (i := 0) rfl))))) rfl rfl dX6_drawMatrix_9 ?_
        refine z_iload_n F 2 dX6_drawMatrix_12 rfl rfl ?_
        refine z_aload_n F 1 dX6_drawMatrix_13 rfl rfl ?_
        refine z_getN (C := RX5) (T := TX5) (N := 10) F (fun w h => List.mem_cons_of_mem _ (List.mem_append_left _ (List.mem_append_right _ (h)))) 2 rfl rfl 0 (by decide) (zEnv.nf E 0 rfl) rfl rfl dX6_drawMatrix_14 ?_
        refine z_iload_n F 2 dX6_drawMatrix_17 rfl rfl ?_
        refine z_ialdN (j := i) F 3 0 rfl rfl (by omega) (by decide) dX6_drawMatrix_18 ?_
        refine z_if_le (tgt := 26) F dX6_drawMatrix_19 (by decide) (fun c2 => ?_) (fun c2 => ?_)
        · refine z_iconst (v := 0) F dX6_drawMatrix_26 (by decide) ?_
          refine z_iastN (j := i) (ws' := [(k1, .inl (g 0, 64, .inl (upd mt1 i 0)))]) F 0 0 rfl rfl (by omega) (by decide) rfl dX6_drawMatrix_27 ?_
          refine z_iinc (v := nI (i + 1)) (lv' := [(2, .int (nI (i + 1))), (0, .ref k0), (1, .ref q0)]) F dX6_drawMatrix_28 2 rfl (nI_1 i) (by decide) rfl ?_
          refine z_goto (tgt := 2) F dX6_drawMatrix_31 (by decide) ?_
          refine z_loc (lv' := [(0, .ref k0), (1, .ref q0), (2, .int (nI (i + 1)))]) [1, 2, 0] rfl ?_
          exact ih2 (i + 1) (upd mt1 i 0) (by omega) (by omega) (z_up (f' := f_mat am) hv (by simp only [f_mat, if_pos c2]))
        · refine z_iconst (v := 1) F dX6_drawMatrix_22 (by decide) ?_
          refine z_goto (tgt := 27) F dX6_drawMatrix_23 (by decide) ?_
          refine z_iastN (j := i) (ws' := [(k1, .inl (g 0, 64, .inl (upd mt1 i 1)))]) F 0 0 rfl rfl (by omega) (by decide) rfl dX6_drawMatrix_27 ?_
          refine z_iinc (v := nI (i + 1)) (lv' := [(2, .int (nI (i + 1))), (0, .ref k0), (1, .ref q0)]) F dX6_drawMatrix_28 2 rfl (nI_1 i) (by decide) rfl ?_
          refine z_goto (tgt := 2) F dX6_drawMatrix_31 (by decide) ?_
          refine z_loc (lv' := [(0, .ref k0), (1, .ref q0), (2, .int (nI (i + 1)))]) [1, 2, 0] rfl ?_
          exact ih2 (i + 1) (upd mt1 i 1) (by omega) (by omega) (z_up (f' := f_mat am) hv (by simp only [f_mat, if_neg c2]))
  show zW p l e { frames := 0, cells := 0, slots := 0, locals := 0 } s m args below meth c 3 D A Q 0 0 [(k1, .inl (g 0, 64, .inl mt))] [(0, .ref k0), (1, .ref q0)] [] 0
  refine z_iconst (v := 0) F dX6_drawMatrix_0 (by decide) ?_
  refine z_istore_n (lv' := [(2, .int 0), (0, .ref k0), (1, .ref q0)]) F dX6_drawMatrix_1 rfl (by decide) rfl ?_
  refine z_loc (lv' := [(0, .ref k0), (1, .ref q0), (2, .int (nI 0))]) [1, 2, 0] rfl ?_
  exact L2 _ 0 mt (Nat.lt_succ_self _) (by omega) (fun k hk => absurd hk (Nat.not_lt_zero k))
set_option maxHeartbeats 4000000 in
set_option maxRecDepth 100000 in
theorem c_X6_owes (l : Launch) (D : va_G) (g : Nat → ClassId) (k0 : Nat) (k1 : Nat) (k2 : Nat) (k3 : Nat) (k4 : Nat) (k5 : Nat) (mt : Nat → Int32) (x : Nat) (y : Nat) (hx : x < 8) (hy : y < 8) (sz : Nat) : Met l yX6_owes wsX6_owes { frames := 0, cells := 0, slots := 0, locals := 0 } (zPc D (gT g) zNo [.ref k0, .int (nI x), .int (nI y)] [] [(k0, .inr (8, [.ref k1, .ref k2, .ref k3, .ref k4, .ref k5])), (k1, .inl (g 0, 64, .inl mt))] sz) (zQi D [] (fun (r : Int32) (_ : Unit) => r = f_owes mt x y) (fun _ => []) sz) 0 0 (va_A [] sz) := by
  refine z_met (y := yX6_owes) (cc := cX6_owes) (nL := 3) (rm := { frames := 0, cells := 0, slots := 0, locals := 0 }) (D := D) (tys := gT g) (wr := [(k0, .inr (8, [.ref k1, .ref k2, .ref k3, .ref k4, .ref k5])), (k1, .inl (g 0, 64, .inl mt))]) (P0 := zNo) (As := [.ref k0, .int (nI x), .int (nI y)]) (ww := []) (Qc := zQi D [] (fun (r : Int32) (_ : Unit) => r = f_owes mt x y) (fun _ => [])) (ret := (some .boolean)) (by decide) rfl (Nat.le_of_ble_eq_true rfl) ?_ sz
  intro p e s m args below meth c A Q hA hQ F E hr hlk hin
  show zW p l e { frames := 0, cells := 0, slots := 0, locals := 0 } s m args below meth c 3 D A Q 0 0 [] [(0, .ref k0), (1, .int (nI x)), (2, .int (nI y))] [] 0
  refine z_aload_n F 0 dX6_owes_0 rfl rfl ?_
  refine z_get (C := RX6) (T := TX6) (N := 5) F (fun w h => List.mem_cons_of_mem _ (List.mem_append_left _ (List.mem_append_right _ (h)))) 0 rfl rfl 0 (by decide) (List.mem_cons_of_mem _ (List.mem_append_left _ (List.mem_append_left _ (List.mem_of_getElem? (i := 0) rfl)))) rfl rfl dX6_owes_1 ?_
  refine z_iload_n F 1 dX6_owes_4 rfl rfl ?_
  refine z_bipush (v := 8) F dX6_owes_5 (by decide) ?_
  refine z_imul F dX6_owes_7 ?_
  refine z_iload_n F 2 dX6_owes_8 rfl rfl ?_
  refine z_iadd F dX6_owes_9 ?_
  refine z_top (y := nI (8 * x + y)) (z_ix x y) ?_
  refine z_ialdN (j := 8 * x + y) F 1 0 rfl rfl (by omega) (by decide) dX6_owes_10 ?_
  refine z_iconst (v := 1) F dX6_owes_11 (by decide) ?_
  refine z_icmp_ne (tgt := 19) F dX6_owes_12 (by decide) (fun c1 => ?_) (fun c1 => ?_)
  · refine z_iconst (v := 0) F dX6_owes_19 (by decide) ?_
    exact z_zret F hA hQ hlk hr (rfl) () (by simp only [f_owes, if_neg c1]) (rfl) dX6_owes_20
  · refine z_iconst (v := 1) F dX6_owes_15 (by decide) ?_
    refine z_goto (tgt := 20) F dX6_owes_16 (by decide) ?_
    exact z_zret F hA hQ hlk hr (rfl) () (by simp only [f_owes, if_pos c1]) (rfl) dX6_owes_20
set_option maxHeartbeats 4000000 in
set_option maxRecDepth 100000 in
theorem c_J6_bitCount_0f7a4 (l : Launch) (D : va_G) (g : Nat → ClassId) (v : Int32) (sz : Nat) : Met l yJ6_bitCount_0f7a4 wsJ6_bitCount_0f7a4 { frames := 0, cells := 0, slots := 0, locals := 0 } (zPc D (gT g) zNo [.int v] [] [] sz) (zQi D [] (fun (r : Int32) (_ : Unit) => r = f_bc v) (fun _ => []) sz) 0 0 (va_A [] sz) := by
  refine z_met (y := yJ6_bitCount_0f7a4) (cc := cJ6_bitCount_0f7a4) (nL := 1) (rm := { frames := 0, cells := 0, slots := 0, locals := 0 }) (D := D) (tys := gT g) (wr := []) (P0 := zNo) (As := [.int v]) (ww := []) (Qc := zQi D [] (fun (r : Int32) (_ : Unit) => r = f_bc v) (fun _ => [])) (ret := (some .int)) (by decide) rfl (Nat.le_of_ble_eq_true rfl) ?_ sz
  intro p e s m args below meth c A Q hA hQ F E hr hlk hin
  show zW p l e { frames := 0, cells := 0, slots := 0, locals := 0 } s m args below meth c 1 D A Q 0 0 [] [(0, .int v)] [] 0
  refine z_iload_n F 0 dJ6_bitCount_0f7a4_0 rfl rfl ?_
  refine z_iload_n F 0 dJ6_bitCount_0f7a4_1 rfl rfl ?_
  refine z_iconst (v := 1) F dJ6_bitCount_0f7a4_2 (by decide) ?_
  refine z_iushr F dJ6_bitCount_0f7a4_3 rfl ?_
  refine z_ldcw (v := 1431655765) F (List.mem_cons_of_mem _ (List.mem_of_getElem? (i := 0) rfl)) dJ6_bitCount_0f7a4_4 ?_
  refine z_iand F dJ6_bitCount_0f7a4_7 ?_
  refine z_isub F dJ6_bitCount_0f7a4_8 ?_
  obtain ⟨b1, hb1⟩ : ∃ z9 : Int32, z9 = v - (((v.toUInt32 >>> ((1 : Int32).toUInt32 &&& Int32.toUInt32 31)).toInt32) &&& 1431655765) := ⟨_, rfl⟩
  refine z_top hb1.symm ?_
  refine z_istore_n (lv' := [(0, .int b1)]) F dJ6_bitCount_0f7a4_9 rfl (by decide) rfl ?_
  refine z_iload_n F 0 dJ6_bitCount_0f7a4_10 rfl rfl ?_
  refine z_ldcw (v := 858993459) F (List.mem_cons_of_mem _ (List.mem_of_getElem? (i := 1) rfl)) dJ6_bitCount_0f7a4_11 ?_
  refine z_iand F dJ6_bitCount_0f7a4_14 ?_
  refine z_iload_n F 0 dJ6_bitCount_0f7a4_15 rfl rfl ?_
  refine z_iconst (v := 2) F dJ6_bitCount_0f7a4_16 (by decide) ?_
  refine z_iushr F dJ6_bitCount_0f7a4_17 rfl ?_
  refine z_ldcw (v := 858993459) F (List.mem_cons_of_mem _ (List.mem_of_getElem? (i := 1) rfl)) dJ6_bitCount_0f7a4_18 ?_
  refine z_iand F dJ6_bitCount_0f7a4_21 ?_
  refine z_iadd F dJ6_bitCount_0f7a4_22 ?_
  obtain ⟨b2, hb2⟩ : ∃ z9 : Int32, z9 = (b1 &&& 858993459) + (((b1.toUInt32 >>> ((2 : Int32).toUInt32 &&& Int32.toUInt32 31)).toInt32) &&& 858993459) := ⟨_, rfl⟩
  refine z_top hb2.symm ?_
  refine z_istore_n (lv' := [(0, .int b2)]) F dJ6_bitCount_0f7a4_23 rfl (by decide) rfl ?_
  refine z_iload_n F 0 dJ6_bitCount_0f7a4_24 rfl rfl ?_
  refine z_iload_n F 0 dJ6_bitCount_0f7a4_25 rfl rfl ?_
  refine z_iconst (v := 4) F dJ6_bitCount_0f7a4_26 (by decide) ?_
  refine z_iushr F dJ6_bitCount_0f7a4_27 rfl ?_
  refine z_iadd F dJ6_bitCount_0f7a4_28 ?_
  refine z_ldcw (v := 252645135) F (List.mem_cons_of_mem _ (List.mem_of_getElem? (i := 2) rfl)) dJ6_bitCount_0f7a4_29 ?_
  refine z_iand F dJ6_bitCount_0f7a4_32 ?_
  obtain ⟨b3, hb3⟩ : ∃ z9 : Int32, z9 = (b2 + ((b2.toUInt32 >>> ((4 : Int32).toUInt32 &&& Int32.toUInt32 31)).toInt32)) &&& 252645135 := ⟨_, rfl⟩
  refine z_top hb3.symm ?_
  refine z_istore_n (lv' := [(0, .int b3)]) F dJ6_bitCount_0f7a4_33 rfl (by decide) rfl ?_
  refine z_iload_n F 0 dJ6_bitCount_0f7a4_34 rfl rfl ?_
  refine z_iload_n F 0 dJ6_bitCount_0f7a4_35 rfl rfl ?_
  refine z_bipush (v := 8) F dJ6_bitCount_0f7a4_36 (by decide) ?_
  refine z_iushr F dJ6_bitCount_0f7a4_38 rfl ?_
  refine z_iadd F dJ6_bitCount_0f7a4_39 ?_
  obtain ⟨b4, hb4⟩ : ∃ z9 : Int32, z9 = b3 + ((b3.toUInt32 >>> ((8 : Int32).toUInt32 &&& Int32.toUInt32 31)).toInt32) := ⟨_, rfl⟩
  refine z_top hb4.symm ?_
  refine z_istore_n (lv' := [(0, .int b4)]) F dJ6_bitCount_0f7a4_40 rfl (by decide) rfl ?_
  refine z_iload_n F 0 dJ6_bitCount_0f7a4_41 rfl rfl ?_
  refine z_iload_n F 0 dJ6_bitCount_0f7a4_42 rfl rfl ?_
  refine z_bipush (v := 16) F dJ6_bitCount_0f7a4_43 (by decide) ?_
  refine z_iushr F dJ6_bitCount_0f7a4_45 rfl ?_
  refine z_iadd F dJ6_bitCount_0f7a4_46 ?_
  obtain ⟨b5, hb5⟩ : ∃ z9 : Int32, z9 = b4 + ((b4.toUInt32 >>> ((16 : Int32).toUInt32 &&& Int32.toUInt32 31)).toInt32) := ⟨_, rfl⟩
  refine z_top hb5.symm ?_
  refine z_istore_n (lv' := [(0, .int b5)]) F dJ6_bitCount_0f7a4_47 rfl (by decide) rfl ?_
  refine z_iload_n F 0 dJ6_bitCount_0f7a4_48 rfl rfl ?_
  refine z_bipush (v := 63) F dJ6_bitCount_0f7a4_49 (by decide) ?_
  refine z_iand F dJ6_bitCount_0f7a4_51 ?_
  exact z_iret F hA hQ hlk hr () (by rw [hb5, hb4, hb3, hb2, hb1]; rfl) (rfl) dJ6_bitCount_0f7a4_52
set_option maxHeartbeats 4000000 in
set_option maxRecDepth 100000 in
theorem c_X6_follow (l : Launch) (D : va_G) (g : Nat → ClassId) (k0 : Nat) (k1 : Nat) (k2 : Nat) (k3 : Nat) (k4 : Nat) (k5 : Nat) (mt : Nat → Int32) (qu : Nat → Int32) (x : Nat) (hx : x < 8) (sz : Nat) : Met l yX6_follow wsX6_follow { frames := 1, cells := 0, slots := 0, locals := 22 } (zPc D (gT g) zNo [.ref k0, .int (nI x)] [(k4, .inl (g 0, 8, .inl qu))] [(k0, .inr (8, [.ref k1, .ref k2, .ref k3, .ref k4, .ref k5])), (k1, .inl (g 0, 64, .inl mt))] sz) (zQi D [(k4, .inl (g 0, 8, .inl qu))] (fun (r : Int32) (_ : Nat → Int32) => r = f_follow mt x) (fun (u9 : Nat → Int32) => [(k4, .inl (g 0, 8, .inl u9))]) sz) 0 0 (va_A [(k4, .inl (g 0, 8, .inl qu))] sz) := by
  refine z_met (y := yX6_follow) (cc := cX6_follow) (nL := 7) (rm := { frames := 1, cells := 0, slots := 0, locals := 22 }) (D := D) (tys := gT g) (wr := [(k0, .inr (8, [.ref k1, .ref k2, .ref k3, .ref k4, .ref k5])), (k1, .inl (g 0, 64, .inl mt))]) (P0 := zNo) (As := [.ref k0, .int (nI x)]) (ww := [(k4, .inl (g 0, 8, .inl qu))]) (Qc := zQi D [(k4, .inl (g 0, 8, .inl qu))] (fun (r : Int32) (_ : Nat → Int32) => r = f_follow mt x) (fun (u9 : Nat → Int32) => [(k4, .inl (g 0, 8, .inl u9))])) (ret := (some .int)) (by decide) rfl (Nat.le_of_ble_eq_true rfl) ?_ sz
  intro p e s m args below meth c A Q hA hQ F E hr hlk hin
  have L16 : ∀ (N16_ : Nat) (n : Nat) (rc : Int32) (fo : Nat) (qu1 : Nat → Int32) (L : Nat → Nat) (hN16_ : 8 - n < N16_) (hn : n ≤ 8) (hf : 1 ≤ fo ∧ fo ≤ 8) (hq : ∀ k, k < fo → qu1 k = nI (L k) ∧ L k < 8) (hv : f_follow mt x = f_flF mt (8 - n) n (rc, fo, L)), zW p l e { frames := 1, cells := 0, slots := 0, locals := 22 } s m args below meth c 7 D A Q 0 0 [(k4, .inl (g 0, 8, .inl qu1))] [(0, .ref k0), (1, .int (nI x)), (2, .int rc), (3, .int (nI fo)), (4, .int (nI n))] [] 16 := by
    intro N16_
    induction N16_ with
    | zero =>
      intro n rc fo qu1 L hN16_
      exact absurd hN16_ (Nat.not_lt_zero _)
    | succ N16_ ih16 =>
      intro n rc fo qu1 L hN16_ hn hf hq hv
      refine z_iload F 4 dX6_follow_16 rfl ?_
      refine z_iload_n F 3 dX6_follow_18 rfl rfl ?_
      refine z_icmp_ge (tgt := 112) F dX6_follow_19 (by decide) (fun c1 => ?_) (fun c1 => ?_)
      · have hfn : fo ≤ n := z_ge (by omega) (by omega) c1
        refine z_iload_n F 2 dX6_follow_112 rfl rfl ?_
        exact z_iret F hA hQ hlk hr (qu1) (by rw [hv]; cases (8 - n) with | zero => rfl | succ k => simp only [f_flF, if_pos hfn]) (rfl) dX6_follow_113
      · have hfn : ¬ fo ≤ n := fun q => c1 (nI_le q (by omega))
        refine z_iload F 4 dX6_follow_22 rfl ?_
        refine z_bipush (v := 8) F dX6_follow_24 (by decide) ?_
        refine z_icmp_ge (tgt := 112) F dX6_follow_26 (by decide) (fun c2 => ?_) (fun c2 => ?_)
        · have hn8 : n = 8 := by have := z_ge (by omega) (by decide) (show nI 8 ≤ nI n from c2); omega
          refine z_iload_n F 2 dX6_follow_112 rfl rfl ?_
          exact z_iret F hA hQ hlk hr (qu1) (by rw [hv, hn8, Nat.sub_self]; rfl) (rfl) dX6_follow_113
        · have hn8 : n < 8 := z_lt (by omega) (by decide) c2
          refine z_iconst (v := 0) F dX6_follow_29 (by decide) ?_
          refine z_istore (lv' := [(5, .int 0), (0, .ref k0), (1, .int (nI x)), (2, .int rc), (3, .int (nI fo)), (4, .int (nI n))]) F dX6_follow_30 (by decide) rfl ?_
          have L32 : ∀ (N32_ : Nat) (i : Nat) (rc1 : Int32) (fo1 : Nat) (qu2 : Nat → Int32) (L2 : Nat → Nat) (hN32_ : 8 - i < N32_) (hi : i ≤ 8) (hf2 : fo ≤ fo1 ∧ fo1 ≤ 8) (hq2 : ∀ k, k < fo1 → qu2 k = nI (L2 k) ∧ L2 k < 8) (hs : (rc1, fo1, L2) = f_flI mt n (rc, fo, L) i), zW p l e { frames := 1, cells := 0, slots := 0, locals := 22 } s m args below meth c 7 D A Q 0 0 [(k4, .inl (g 0, 8, .inl qu2))] [(0, .ref k0), (1, .int (nI x)), (2, .int rc1), (3, .int (nI fo1)), (4, .int (nI n)), (5, .int (nI i))] [] 32 := by
            intro N32_
            induction N32_ with
            | zero =>
              intro i rc1 fo1 qu2 L2 hN32_
              exact absurd hN32_ (Nat.not_lt_zero _)
            | succ N32_ ih32 =>
              intro i rc1 fo1 qu2 L2 hN32_ hi hf2 hq2 hs
              refine z_iload F 5 dX6_follow_32 rfl ?_
              refine z_bipush (v := 8) F dX6_follow_34 (by decide) ?_
              refine z_icmp_ge (tgt := 106) F dX6_follow_36 (by decide) (fun c3 => ?_) (fun c3 => ?_)
              · have hi8 : i = 8 := by have := z_ge (by omega) (by decide) (show nI 8 ≤ nI i from c3); omega
                have hs8 : (rc1, fo1, L2) = f_flI mt n (rc, fo, L) 8 := by rw [hs, hi8]
                refine z_iinc (v := nI (n + 1)) (lv' := [(4, .int (nI (n + 1))), (0, .ref k0), (1, .int (nI x)), (2, .int rc1), (3, .int (nI fo1)), (5, .int (nI i))]) F dX6_follow_106 4 rfl (nI_1 n) (by decide) rfl ?_
                refine z_goto (tgt := 16) F dX6_follow_109 (by decide) ?_
                refine z_loc (lv' := [(0, .ref k0), (1, .int (nI x)), (2, .int rc1), (3, .int (nI fo1)), (4, .int (nI (n + 1)))]) [1, 2, 3, 4, 0] rfl ?_
                exact ih16 (n + 1) rc1 fo1 qu2 L2 (by omega) (by omega) (by omega) hq2 (by rw [hv, show 8 - n = (8 - (n + 1)) + 1 by omega]; simp only [f_flF, if_neg hfn]; rw [← hs8])
              · have hi8 : i < 8 := z_lt (by omega) (by decide) c3
                refine z_iload_n F 2 dX6_follow_39 rfl rfl ?_
                refine z_iconst (v := 1) F dX6_follow_40 (by decide) ?_
                refine z_iload F 5 dX6_follow_41 rfl ?_
                refine z_ishl F dX6_follow_43 ?_
                refine z_iand F dX6_follow_44 ?_
                refine z_if_ne (tgt := 52) F dX6_follow_45 (by decide) (fun c4 => ?_) (fun c4 => ?_)
                · refine z_iconst (v := 0) F dX6_follow_52 (by decide) ?_
                  refine z_istore (lv' := [(6, .int 0), (0, .ref k0), (1, .int (nI x)), (2, .int rc1), (3, .int (nI fo1)), (4, .int (nI n)), (5, .int (nI i))]) F dX6_follow_53 (by decide) rfl ?_
                  refine z_iload F 0 dX6_follow_55 rfl ?_
                  refine z_if_eq (tgt := 100) F dX6_follow_57 (by decide) (fun c5 => ?_) (fun c5 => ?_)
                  · refine z_iinc (v := nI (i + 1)) (lv' := [(5, .int (nI (i + 1))), (6, .int 0), (0, .ref k0), (1, .int (nI x)), (2, .int rc1), (3, .int (nI fo1)), (4, .int (nI n))]) F dX6_follow_100 6 rfl (nI_1 i) (by decide) rfl ?_
                    refine z_goto (tgt := 32) F dX6_follow_103 (by decide) ?_
                    refine z_loc (lv' := [(0, .ref k0), (1, .int (nI x)), (2, .int rc1), (3, .int (nI fo1)), (4, .int (nI n)), (5, .int (nI (i + 1)))]) [2, 3, 4, 5, 6, 0] rfl ?_
                    exact ih32 (i + 1) rc1 fo1 qu2 L2 (by omega) (by omega) (by omega) hq2 (by simp only [f_flI, ← hs, f_fl1, if_neg c4])
                  · exact absurd (by decide) c5
                · refine z_iconst (v := 1) F dX6_follow_48 (by decide) ?_
                  refine z_goto (tgt := 53) F dX6_follow_49 (by decide) ?_
                  refine z_istore (lv' := [(6, .int 1), (0, .ref k0), (1, .int (nI x)), (2, .int rc1), (3, .int (nI fo1)), (4, .int (nI n)), (5, .int (nI i))]) F dX6_follow_53 (by decide) rfl ?_
                  refine z_iload F 0 dX6_follow_55 rfl ?_
                  refine z_if_eq (tgt := 100) F dX6_follow_57 (by decide) (fun c6 => ?_) (fun c6 => ?_)
                  · exact absurd c6 (by decide)
                  · refine z_aload_n F 1 dX6_follow_60 rfl rfl ?_
                    refine z_aload_n F 1 dX6_follow_61 rfl rfl ?_
                    refine z_get (C := RX6) (T := TX6) (N := 5) F (fun w h => List.mem_cons_of_mem _ (List.mem_append_left _ (List.mem_append_right _ (h)))) 1 rfl rfl 3 (by decide) (List.mem_cons_of_mem _ (List.mem_append_left _ (List.mem_append_left _ (List.mem_of_getElem? (i := 0) rfl)))) rfl rfl dX6_follow_62 ?_
                    refine z_iload F 5 dX6_follow_65 rfl ?_
                    refine z_ialdN (j := n) F 0 0 rfl rfl (by omega) (by decide) dX6_follow_67 ?_
                    refine z_top (y := nI (L2 n)) ((hq2 n (by omega)).1) ?_
                    refine z_iload F 6 dX6_follow_68 rfl ?_
                    refine z_calli0 F (z_runV (st := []) F zNo_ok trivial (fun sz => c_X6_owes l D g k0 k1 k2 k3 k4 k5 mt (L2 n) i ((hq2 n (by omega)).2) (hi8) sz) (cwV 2 F.1.2.2.2.2 gX6_follow_X6_owes rfl rfl rfl (by decide +kernel) ⟨Nat.le_of_ble_eq_true rfl, Nat.le_of_ble_eq_true rfl⟩) 1 rfl rfl rfl [] [1, 2] rfl rfl (by decide) rfl rfl (Nat.le_of_ble_eq_true rfl) dX6_follow_70 ⟨Nat.le_of_ble_eq_true rfl, Nat.le_of_ble_eq_true rfl⟩) (fun r8 _ hw7 => ?_)
                    subst hw7
                    refine z_if_eq (tgt := 100) F dX6_follow_73 (by decide) (fun c9 => ?_) (fun c9 => ?_)
                    · refine z_iinc (v := nI (i + 1)) (lv' := [(5, .int (nI (i + 1))), (6, .int 1), (0, .ref k0), (1, .int (nI x)), (2, .int rc1), (3, .int (nI fo1)), (4, .int (nI n))]) F dX6_follow_100 6 rfl (nI_1 i) (by decide) rfl ?_
                      refine z_goto (tgt := 32) F dX6_follow_103 (by decide) ?_
                      refine z_loc (lv' := [(0, .ref k0), (1, .int (nI x)), (2, .int rc1), (3, .int (nI fo1)), (4, .int (nI n)), (5, .int (nI (i + 1)))]) [2, 3, 4, 5, 6, 0] rfl ?_
                      exact ih32 (i + 1) rc1 fo1 qu2 L2 (by omega) (by omega) (by omega) hq2 (by simp only [f_flI, ← hs, f_fl1, if_pos c4, if_pos c9])
                    · refine z_iload_n F 4 dX6_follow_76 rfl rfl ?_
                      refine z_bipush (v := 8) F dX6_follow_77 (by decide) ?_
                      refine z_icmp_ge (tgt := 100) F dX6_follow_79 (by decide) (fun c10 => ?_) (fun c10 => ?_)
                      · have h8 : 8 ≤ fo1 := z_ge (by omega) (by decide) (show nI 8 ≤ nI fo1 from c10)
                        refine z_iinc (v := nI (i + 1)) (lv' := [(5, .int (nI (i + 1))), (6, .int 1), (0, .ref k0), (1, .int (nI x)), (2, .int rc1), (3, .int (nI fo1)), (4, .int (nI n))]) F dX6_follow_100 6 rfl (nI_1 i) (by decide) rfl ?_
                        refine z_goto (tgt := 32) F dX6_follow_103 (by decide) ?_
                        refine z_loc (lv' := [(0, .ref k0), (1, .int (nI x)), (2, .int rc1), (3, .int (nI fo1)), (4, .int (nI n)), (5, .int (nI (i + 1)))]) [2, 3, 4, 5, 6, 0] rfl ?_
                        exact ih32 (i + 1) rc1 fo1 qu2 L2 (by omega) (by omega) (by omega) hq2 (by simp only [f_flI, ← hs, f_fl1, if_pos c4, if_neg c9, if_pos h8])
                      · have h8 : ¬ 8 ≤ fo1 := fun q => c10 (nI_le q (by omega))
                        refine z_iload_n F 3 dX6_follow_82 rfl rfl ?_
                        refine z_iconst (v := 1) F dX6_follow_83 (by decide) ?_
                        refine z_iload F 6 dX6_follow_84 rfl ?_
                        refine z_ishl F dX6_follow_86 ?_
                        refine z_ior F dX6_follow_87 ?_
                        refine z_istore_n (lv' := [(2, .int (rc1 ||| (1 <<< ((nI i) &&& 31)))), (6, .int 1), (0, .ref k0), (1, .int (nI x)), (3, .int (nI fo1)), (4, .int (nI n)), (5, .int (nI i))]) F dX6_follow_88 rfl (by decide) rfl ?_
                        refine z_aload_n F 2 dX6_follow_89 rfl rfl ?_
                        refine z_get (C := RX6) (T := TX6) (N := 5) F (fun w h => List.mem_cons_of_mem _ (List.mem_append_left _ (List.mem_append_right _ (h)))) 1 rfl rfl 3 (by decide) (List.mem_cons_of_mem _ (List.mem_append_left _ (List.mem_append_left _ (List.mem_of_getElem? (i := 0) rfl)))) rfl rfl dX6_follow_90 ?_
                        refine z_iload_n F 4 dX6_follow_93 rfl rfl ?_
                        refine z_iload F 6 dX6_follow_94 rfl ?_
                        refine z_iastN (j := fo1) (ws' := [(k4, .inl (g 0, 8, .inl (upd qu2 fo1 (nI i))))]) F 0 0 rfl rfl (by omega) (by decide) rfl dX6_follow_96 ?_
                        refine z_iinc (v := nI (fo1 + 1)) (lv' := [(3, .int (nI (fo1 + 1))), (2, .int (rc1 ||| (1 <<< ((nI i) &&& 31)))), (6, .int 1), (0, .ref k0), (1, .int (nI x)), (4, .int (nI n)), (5, .int (nI i))]) F dX6_follow_97 4 rfl (nI_1 fo1) (by decide) rfl ?_
                        refine z_iinc (v := nI (i + 1)) (lv' := [(5, .int (nI (i + 1))), (3, .int (nI (fo1 + 1))), (2, .int (rc1 ||| (1 <<< ((nI i) &&& 31)))), (6, .int 1), (0, .ref k0), (1, .int (nI x)), (4, .int (nI n))]) F dX6_follow_100 6 rfl (nI_1 i) (by decide) rfl ?_
                        refine z_goto (tgt := 32) F dX6_follow_103 (by decide) ?_
                        refine z_loc (lv' := [(0, .ref k0), (1, .int (nI x)), (2, .int (rc1 ||| (1 <<< ((nI i) &&& 31)))), (3, .int (nI (fo1 + 1))), (4, .int (nI n)), (5, .int (nI (i + 1)))]) [4, 5, 2, 1, 6, 0] rfl ?_
                        exact ih32 (i + 1) (rc1 ||| (1 <<< ((nI i) &&& 31))) (fo1 + 1) (upd qu2 fo1 (nI i)) (fun k => if k = fo1 then i else L2 k) (by omega) (by omega) (by omega) (z_qu hq2 hi8) (by simp only [f_flI, ← hs, f_fl1, if_pos c4, if_neg c9, if_neg h8])
          refine z_loc (lv' := [(0, .ref k0), (1, .int (nI x)), (2, .int rc), (3, .int (nI fo)), (4, .int (nI n)), (5, .int (nI 0))]) [1, 2, 3, 4, 5, 0] rfl ?_
          exact L32 _ 0 rc fo qu1 L (Nat.lt_succ_self _) (by omega) (by omega) hq rfl
  show zW p l e { frames := 1, cells := 0, slots := 0, locals := 22 } s m args below meth c 7 D A Q 0 0 [(k4, .inl (g 0, 8, .inl qu))] [(0, .ref k0), (1, .int (nI x))] [] 0
  refine z_iconst (v := 1) F dX6_follow_0 (by decide) ?_
  refine z_iload_n F 1 dX6_follow_1 rfl rfl ?_
  refine z_ishl F dX6_follow_2 ?_
  refine z_istore_n (lv' := [(2, .int (1 <<< ((nI x) &&& 31))), (0, .ref k0), (1, .int (nI x))]) F dX6_follow_3 rfl (by decide) rfl ?_
  refine z_iconst (v := 1) F dX6_follow_4 (by decide) ?_
  refine z_istore_n (lv' := [(3, .int 1), (2, .int (1 <<< ((nI x) &&& 31))), (0, .ref k0), (1, .int (nI x))]) F dX6_follow_5 rfl (by decide) rfl ?_
  refine z_aload_n F 2 dX6_follow_6 rfl rfl ?_
  refine z_get (C := RX6) (T := TX6) (N := 5) F (fun w h => List.mem_cons_of_mem _ (List.mem_append_left _ (List.mem_append_right _ (h)))) 1 rfl rfl 3 (by decide) (List.mem_cons_of_mem _ (List.mem_append_left _ (List.mem_append_left _ (List.mem_of_getElem? (i := 0) rfl)))) rfl rfl dX6_follow_7 ?_
  refine z_iconst (v := 0) F dX6_follow_10 (by decide) ?_
  refine z_iload_n F 3 dX6_follow_11 rfl rfl ?_
  refine z_iastN (j := 0) (ws' := [(k4, .inl (g 0, 8, .inl (upd qu 0 (nI x))))]) F 0 0 rfl rfl (by omega) (by decide) rfl dX6_follow_12 ?_
  refine z_iconst (v := 0) F dX6_follow_13 (by decide) ?_
  refine z_istore (lv' := [(4, .int 0), (3, .int 1), (2, .int (1 <<< ((nI x) &&& 31))), (0, .ref k0), (1, .int (nI x))]) F dX6_follow_14 (by decide) rfl ?_
  refine z_loc (lv' := [(0, .ref k0), (1, .int (nI x)), (2, .int (1 <<< ((nI x) &&& 31))), (3, .int (nI 1)), (4, .int (nI 0))]) [3, 4, 2, 1, 0] rfl ?_
  exact L16 _ 0 (1 <<< ((nI x) &&& 31)) 1 (upd qu 0 (nI x)) (fun _ => x) (Nat.lt_succ_self _) (by omega) (by omega) (fun k hk => by obtain rfl : k = 0 := (by omega); exact ⟨pk_us, hx⟩) rfl
set_option maxHeartbeats 4000000 in
set_option maxRecDepth 100000 in
theorem c_X6_countReached (l : Launch) (D : va_G) (g : Nat → ClassId) (er : Nat → Nat) (k0 : Nat) (k1 : Nat) (k2 : Nat) (k3 : Nat) (k4 : Nat) (k5 : Nat) (mt : Nat → Int32) (qu : Nat → Int32) (q0 : Nat) (q1 : Nat) (q2 : Nat) (q3 : Nat) (q4 : Nat) (q5 : Nat) (q6 : Nat) (am : Nat → Int32) (mc : Nat) (hc : Int32) (ne : Int32) (lo : Int32) (x : Nat) (hx : x < 8) (sz : Nat) : Met l yX6_countReached wsX6_countReached { frames := 2, cells := 0, slots := 0, locals := 48 } (zPc D (gT g) (zEnv er) [.ref k0, .ref q0, .int (nI x)] [(k1, .inl (g 0, 64, .inl mt)), (k4, .inl (g 0, 8, .inl qu))] [(k0, .inr (8, [.ref k1, .ref k2, .ref k3, .ref k4, .ref k5])), (q0, .inr (7, [.ref q1, .ref q2, .ref q3, .ref q4, .ref q5, .ref q6, .int (nI mc), .int hc, .int ne, .int lo])), (q1, .inl (g 0, 64, .inl am))] sz) (zQi D [(k1, .inl (g 0, 64, .inl mt)), (k4, .inl (g 0, 8, .inl qu))] (fun (r : Int32) (_ : Nat → Int32) => r = f_bc (f_follow (f_mat am) x) - 1) (fun (u9 : Nat → Int32) => [(k1, .inl (g 0, 64, .inl (f_mat am))), (k4, .inl (g 0, 8, .inl u9))]) sz) 0 0 (va_A [(k1, .inl (g 0, 64, .inl mt)), (k4, .inl (g 0, 8, .inl qu))] sz) := by
  refine z_met (y := yX6_countReached) (cc := cX6_countReached) (nL := 3) (rm := { frames := 2, cells := 0, slots := 0, locals := 48 }) (D := D) (tys := gT g) (wr := [(k0, .inr (8, [.ref k1, .ref k2, .ref k3, .ref k4, .ref k5])), (q0, .inr (7, [.ref q1, .ref q2, .ref q3, .ref q4, .ref q5, .ref q6, .int (nI mc), .int hc, .int ne, .int lo])), (q1, .inl (g 0, 64, .inl am))]) (P0 := zEnv er) (As := [.ref k0, .ref q0, .int (nI x)]) (ww := [(k1, .inl (g 0, 64, .inl mt)), (k4, .inl (g 0, 8, .inl qu))]) (Qc := zQi D [(k1, .inl (g 0, 64, .inl mt)), (k4, .inl (g 0, 8, .inl qu))] (fun (r : Int32) (_ : Nat → Int32) => r = f_bc (f_follow (f_mat am) x) - 1) (fun (u9 : Nat → Int32) => [(k1, .inl (g 0, 64, .inl (f_mat am))), (k4, .inl (g 0, 8, .inl u9))])) (ret := (some .int)) (by decide) rfl (Nat.le_of_ble_eq_true rfl) ?_ sz
  intro p e s m args below meth c A Q hA hQ F E hr hlk hin
  show zW p l e { frames := 2, cells := 0, slots := 0, locals := 48 } s m args below meth c 3 D A Q 0 0 [(k1, .inl (g 0, 64, .inl mt)), (k4, .inl (g 0, 8, .inl qu))] [(0, .ref k0), (1, .ref q0), (2, .int (nI x))] [] 0
  refine z_aload_n F 0 dX6_countReached_0 rfl rfl ?_
  refine z_aload_n F 1 dX6_countReached_1 rfl rfl ?_
  refine z_callv (wn := [(k4, .inl (g 0, 8, .inl qu))]) (wf := fun _ => [(k1, .inl (g 0, 64, .inl (f_mat am))), (k4, .inl (g 0, 8, .inl qu))]) F (z_runV (st := []) F (zEnv_ok er) E (fun sz => c_X6_drawMatrix l D g er k0 k1 k2 k3 k4 k5 mt q0 q1 q2 q3 q4 q5 q6 am mc hc ne lo sz) (cwV 1 F.1.2.2.2.2 gX6_countReached_X6_drawMatrix rfl rfl rfl (by decide +kernel) ⟨Nat.le_of_ble_eq_true rfl, Nat.le_of_ble_eq_true rfl⟩) 2 rfl rfl rfl [0] [2, 3, 4] rfl rfl (by decide) rfl rfl (Nat.le_of_ble_eq_true rfl) dX6_countReached_2 ⟨Nat.le_of_ble_eq_true rfl, Nat.le_of_ble_eq_true rfl⟩) [0] [1] [1, 0] rfl rfl (by decide) (by decide) (by decide) (fun _ => rfl) (fun _ hw1 => ?_)
  clear hw1
  refine z_aload_n F 0 dX6_countReached_5 rfl rfl ?_
  refine z_iload_n F 2 dX6_countReached_6 rfl rfl ?_
  refine z_calli (wn := [(k1, .inl (g 0, 64, .inl (f_mat am)))]) (wf := fun u3 => [(k1, .inl (g 0, 64, .inl (f_mat am))), (k4, .inl (g 0, 8, .inl u3))]) F (z_runV (st := []) F zNo_ok trivial (fun sz => c_X6_follow l D g k0 k1 k2 k3 k4 k5 (f_mat am) qu x (by omega) sz) (cwV 1 F.1.2.2.2.2 gX6_countReached_X6_follow rfl rfl rfl (by decide +kernel) ⟨Nat.le_of_ble_eq_true rfl, Nat.le_of_ble_eq_true rfl⟩) 2 rfl rfl rfl [1] [2, 0] rfl rfl (by decide) rfl rfl (Nat.le_of_ble_eq_true rfl) dX6_countReached_7 ⟨Nat.le_of_ble_eq_true rfl, Nat.le_of_ble_eq_true rfl⟩) [1] [0] [0, 1] rfl rfl (by decide) (by decide) (by decide) (fun _ => rfl) (fun r4 u3 hw2 => ?_)
  subst hw2
  refine z_calli0 F (z_runS (st := []) F zNo_ok trivial (fun sz => c_J6_bitCount_0f7a4 l D g (f_follow (f_mat am) x) sz) (va_cwS 1 F.1.2.2.2.2 gX6_countReached_J6_bitCount_0f7a4 rfl rfl rfl (by decide +kernel) ⟨Nat.le_of_ble_eq_true rfl, Nat.le_of_ble_eq_true rfl⟩) [] [] rfl rfl (by decide) rfl rfl (Nat.le_of_ble_eq_true rfl) dX6_countReached_10 ⟨Nat.le_of_ble_eq_true rfl, Nat.le_of_ble_eq_true rfl⟩) (fun r6 _ hw5 => ?_)
  subst hw5
  refine z_iconst (v := 1) F dX6_countReached_13 (by decide) ?_
  refine z_isub F dX6_countReached_14 ?_
  exact z_iret F hA hQ hlk hr (u3) (rfl) (rfl) dX6_countReached_15
set_option maxHeartbeats 4000000 in
set_option maxRecDepth 100000 in
theorem c_X6_countTriangles (l : Launch) (D : va_G) (g : Nat → ClassId) (er : Nat → Nat) (k0 : Nat) (k1 : Nat) (k2 : Nat) (k3 : Nat) (k4 : Nat) (k5 : Nat) (mt : Nat → Int32) (q0 : Nat) (q1 : Nat) (q2 : Nat) (q3 : Nat) (q4 : Nat) (q5 : Nat) (q6 : Nat) (am : Nat → Int32) (mc : Nat) (hc : Int32) (ne : Int32) (lo : Int32) (sz : Nat) : Met l yX6_countTriangles wsX6_countTriangles { frames := 1, cells := 0, slots := 0, locals := 22 } (zPc D (gT g) (zEnv er) [.ref k0, .ref q0] [(k1, .inl (g 0, 64, .inl mt))] [(k0, .inr (8, [.ref k1, .ref k2, .ref k3, .ref k4, .ref k5])), (q0, .inr (7, [.ref q1, .ref q2, .ref q3, .ref q4, .ref q5, .ref q6, .int (nI mc), .int hc, .int ne, .int lo])), (q1, .inl (g 0, 64, .inl am))] sz) (zQi D [(k1, .inl (g 0, 64, .inl mt))] (fun (r : Int32) (_ : Unit) => r = f_tri (f_mat am)) (fun _ => [(k1, .inl (g 0, 64, .inl (f_mat am)))]) sz) 0 0 (va_A [(k1, .inl (g 0, 64, .inl mt))] sz) := by
  refine z_met (y := yX6_countTriangles) (cc := cX6_countTriangles) (nL := 6) (rm := { frames := 1, cells := 0, slots := 0, locals := 22 }) (D := D) (tys := gT g) (wr := [(k0, .inr (8, [.ref k1, .ref k2, .ref k3, .ref k4, .ref k5])), (q0, .inr (7, [.ref q1, .ref q2, .ref q3, .ref q4, .ref q5, .ref q6, .int (nI mc), .int hc, .int ne, .int lo])), (q1, .inl (g 0, 64, .inl am))]) (P0 := zEnv er) (As := [.ref k0, .ref q0]) (ww := [(k1, .inl (g 0, 64, .inl mt))]) (Qc := zQi D [(k1, .inl (g 0, 64, .inl mt))] (fun (r : Int32) (_ : Unit) => r = f_tri (f_mat am)) (fun _ => [(k1, .inl (g 0, 64, .inl (f_mat am)))])) (ret := (some .int)) (by decide) rfl (Nat.le_of_ble_eq_true rfl) ?_ sz
  intro p e s m args below meth c A Q hA hQ F E hr hlk hin
  have L9 : ∀ (N9_ : Nat) (a : Nat) (v : Int32) (hN9_ : 8 - a < N9_) (ha : a ≤ 8) (hv : v = z_for 0 (fun a v => f_tr2 (f_mat am) a v (7 - a)) 0 a), zW p l e { frames := 1, cells := 0, slots := 0, locals := 22 } s m args below meth c 6 D A Q 0 0 [(k1, .inl (g 0, 64, .inl (f_mat am)))] [(0, .ref k0), (1, .ref q0), (2, .int v), (3, .int (nI a))] [] 9 := by
    intro N9_
    induction N9_ with
    | zero =>
      intro a v hN9_
      exact absurd hN9_ (Nat.not_lt_zero _)
    | succ N9_ ih9 =>
      intro a v hN9_ ha hv
      refine z_iload_n F 3 dX6_countTriangles_9 rfl rfl ?_
      refine z_bipush (v := 8) F dX6_countTriangles_10 (by decide) ?_
      refine z_icmp_ge (tgt := 91) F dX6_countTriangles_12 (by decide) (fun c1 => ?_) (fun c1 => ?_)
      · have ha8 : a = 8 := by have := z_ge (by omega) (by decide) (show nI 8 ≤ nI a from c1); omega
        refine z_iload_n F 2 dX6_countTriangles_91 rfl rfl ?_
        exact z_iret F hA hQ hlk hr () (by rw [hv, ha8]; rfl) (rfl) dX6_countTriangles_92
      · have ha8 : a < 8 := z_lt (by omega) (by decide) c1
        refine z_iload_n F 3 dX6_countTriangles_15 rfl rfl ?_
        refine z_iconst (v := 1) F dX6_countTriangles_16 (by decide) ?_
        refine z_iadd F dX6_countTriangles_17 ?_
        refine z_top (y := nI (a + 1)) (nI_1 a) ?_
        refine z_istore (lv' := [(4, .int (nI (a + 1))), (0, .ref k0), (1, .ref q0), (2, .int v), (3, .int (nI a))]) F dX6_countTriangles_18 (by decide) rfl ?_
        have L20 : ∀ (N20_ : Nat) (b : Nat) (w : Int32) (hN20_ : 8 - b < N20_) (hb : a + 1 ≤ b ∧ b ≤ 8) (hw : w = f_tr2 (f_mat am) a v (b - (a + 1))), zW p l e { frames := 1, cells := 0, slots := 0, locals := 22 } s m args below meth c 6 D A Q 0 0 [(k1, .inl (g 0, 64, .inl (f_mat am)))] [(0, .ref k0), (1, .ref q0), (2, .int w), (3, .int (nI a)), (4, .int (nI b))] [] 20 := by
          intro N20_
          induction N20_ with
          | zero =>
            intro b w hN20_
            exact absurd hN20_ (Nat.not_lt_zero _)
          | succ N20_ ih20 =>
            intro b w hN20_ hb hw
            refine z_iload F 4 dX6_countTriangles_20 rfl ?_
            refine z_bipush (v := 8) F dX6_countTriangles_22 (by decide) ?_
            refine z_icmp_ge (tgt := 85) F dX6_countTriangles_24 (by decide) (fun c2 => ?_) (fun c2 => ?_)
            · have hb8 : b = 8 := by have := z_ge (by omega) (by decide) (show nI 8 ≤ nI b from c2); omega
              refine z_iinc (v := nI (a + 1)) (lv' := [(3, .int (nI (a + 1))), (0, .ref k0), (1, .ref q0), (2, .int w), (4, .int (nI b))]) F dX6_countTriangles_85 3 rfl (nI_1 a) (by decide) rfl ?_
              refine z_goto (tgt := 9) F dX6_countTriangles_88 (by decide) ?_
              refine z_loc (lv' := [(0, .ref k0), (1, .ref q0), (2, .int w), (3, .int (nI (a + 1)))]) [1, 2, 3, 0] rfl ?_
              exact ih9 (a + 1) w (by omega) (by omega) (by rw [hw, hb8, show 8 - (a + 1) = 7 - a by omega]; show _ = f_tr2 (f_mat am) (0 + a) _ (7 - (0 + a)); rw [Nat.zero_add, ← hv])
            · have hb8 : b < 8 := z_lt (by omega) (by decide) c2
              refine z_iload_n F 3 dX6_countTriangles_27 rfl rfl ?_
              refine z_iconst (v := 1) F dX6_countTriangles_28 (by decide) ?_
              refine z_iadd F dX6_countTriangles_29 ?_
              refine z_top (y := nI (a + 1)) (nI_1 a) ?_
              refine z_istore (lv' := [(5, .int (nI (a + 1))), (0, .ref k0), (1, .ref q0), (2, .int w), (3, .int (nI a)), (4, .int (nI b))]) F dX6_countTriangles_30 (by decide) rfl ?_
              have L32 : ∀ (N32_ : Nat) (t : Nat) (u : Int32) (hN32_ : 8 - t < N32_) (ht : a + 1 ≤ t ∧ t ≤ 8) (hu : u = f_tr3 (f_mat am) a b w (t - (a + 1))), zW p l e { frames := 1, cells := 0, slots := 0, locals := 22 } s m args below meth c 6 D A Q 0 0 [(k1, .inl (g 0, 64, .inl (f_mat am)))] [(0, .ref k0), (1, .ref q0), (2, .int u), (3, .int (nI a)), (4, .int (nI b)), (5, .int (nI t))] [] 32 := by
                intro N32_
                induction N32_ with
                | zero =>
                  intro t u hN32_
                  exact absurd hN32_ (Nat.not_lt_zero _)
                | succ N32_ ih32 =>
                  intro t u hN32_ ht hu
                  refine z_iload F 5 dX6_countTriangles_32 rfl ?_
                  refine z_bipush (v := 8) F dX6_countTriangles_34 (by decide) ?_
                  refine z_icmp_ge (tgt := 79) F dX6_countTriangles_36 (by decide) (fun c3 => ?_) (fun c3 => ?_)
                  · have ht8 : t = 8 := by have := z_ge (by omega) (by decide) (show nI 8 ≤ nI t from c3); omega
                    refine z_iinc (v := nI (b + 1)) (lv' := [(4, .int (nI (b + 1))), (0, .ref k0), (1, .ref q0), (2, .int u), (3, .int (nI a)), (5, .int (nI t))]) F dX6_countTriangles_79 4 rfl (nI_1 b) (by decide) rfl ?_
                    refine z_goto (tgt := 20) F dX6_countTriangles_82 (by decide) ?_
                    refine z_loc (lv' := [(0, .ref k0), (1, .ref q0), (2, .int u), (3, .int (nI a)), (4, .int (nI (b + 1)))]) [1, 2, 3, 4, 0] rfl ?_
                    exact ih20 (b + 1) u (by omega) (by omega) (by rw [hu, ht8, show 8 - (a + 1) = 7 - a by omega, show b + 1 - (a + 1) = (b - (a + 1)) + 1 by omega]; show _ = f_tr3 (f_mat am) a (a + 1 + (b - (a + 1))) _ (7 - a); rw [show a + 1 + (b - (a + 1)) = b by omega, hw]; rfl)
                  · have ht8 : t < 8 := z_lt (by omega) (by decide) c3
                    refine z_aload_n F 0 dX6_countTriangles_39 rfl rfl ?_
                    refine z_iload_n F 3 dX6_countTriangles_40 rfl rfl ?_
                    refine z_iload F 4 dX6_countTriangles_41 rfl ?_
                    refine z_calli0 F (z_runV (st := []) F zNo_ok trivial (fun sz => c_X6_owes l D g k0 k1 k2 k3 k4 k5 (f_mat am) a b (by omega) (by omega) sz) (cwV 2 F.1.2.2.2.2 gX6_countTriangles_X6_owes rfl rfl rfl (by decide +kernel) ⟨Nat.le_of_ble_eq_true rfl, Nat.le_of_ble_eq_true rfl⟩) 1 rfl rfl rfl [] [1, 0] rfl rfl (by decide) rfl rfl (Nat.le_of_ble_eq_true rfl) dX6_countTriangles_43 ⟨Nat.le_of_ble_eq_true rfl, Nat.le_of_ble_eq_true rfl⟩) (fun r5 _ hw4 => ?_)
                    subst hw4
                    refine z_if_eq (tgt := 73) F dX6_countTriangles_46 (by decide) (fun c6 => ?_) (fun c6 => ?_)
                    · refine z_iinc (v := nI (t + 1)) (lv' := [(5, .int (nI (t + 1))), (0, .ref k0), (1, .ref q0), (2, .int u), (3, .int (nI a)), (4, .int (nI b))]) F dX6_countTriangles_73 5 rfl (nI_1 t) (by decide) rfl ?_
                      refine z_goto (tgt := 32) F dX6_countTriangles_76 (by decide) ?_
                      refine z_loc (lv' := [(0, .ref k0), (1, .ref q0), (2, .int u), (3, .int (nI a)), (4, .int (nI b)), (5, .int (nI (t + 1)))]) [1, 2, 3, 4, 5, 0] rfl ?_
                      exact ih32 (t + 1) u (by omega) (by omega) (by rw [show t + 1 - (a + 1) = (t - (a + 1)) + 1 by omega]; show _ = f_t3 (f_mat am) a b (a + 1 + (t - (a + 1))) (f_tr3 (f_mat am) a b w (t - (a + 1))); rw [show a + 1 + (t - (a + 1)) = t by omega, ← hu]; simp only [f_t3, if_pos c6])
                    · refine z_aload_n F 0 dX6_countTriangles_49 rfl rfl ?_
                      refine z_iload F 4 dX6_countTriangles_50 rfl ?_
                      refine z_iload F 5 dX6_countTriangles_52 rfl ?_
                      refine z_calli0 F (z_runV (st := []) F zNo_ok trivial (fun sz => c_X6_owes l D g k0 k1 k2 k3 k4 k5 (f_mat am) b t (by omega) (by omega) sz) (cwV 2 F.1.2.2.2.2 gX6_countTriangles_X6_owes rfl rfl rfl (by decide +kernel) ⟨Nat.le_of_ble_eq_true rfl, Nat.le_of_ble_eq_true rfl⟩) 1 rfl rfl rfl [] [1, 0] rfl rfl (by decide) rfl rfl (Nat.le_of_ble_eq_true rfl) dX6_countTriangles_54 ⟨Nat.le_of_ble_eq_true rfl, Nat.le_of_ble_eq_true rfl⟩) (fun r8 _ hw7 => ?_)
                      subst hw7
                      refine z_if_eq (tgt := 73) F dX6_countTriangles_57 (by decide) (fun c9 => ?_) (fun c9 => ?_)
                      · refine z_iinc (v := nI (t + 1)) (lv' := [(5, .int (nI (t + 1))), (0, .ref k0), (1, .ref q0), (2, .int u), (3, .int (nI a)), (4, .int (nI b))]) F dX6_countTriangles_73 5 rfl (nI_1 t) (by decide) rfl ?_
                        refine z_goto (tgt := 32) F dX6_countTriangles_76 (by decide) ?_
                        refine z_loc (lv' := [(0, .ref k0), (1, .ref q0), (2, .int u), (3, .int (nI a)), (4, .int (nI b)), (5, .int (nI (t + 1)))]) [1, 2, 3, 4, 5, 0] rfl ?_
                        exact ih32 (t + 1) u (by omega) (by omega) (by rw [show t + 1 - (a + 1) = (t - (a + 1)) + 1 by omega]; show _ = f_t3 (f_mat am) a b (a + 1 + (t - (a + 1))) (f_tr3 (f_mat am) a b w (t - (a + 1))); rw [show a + 1 + (t - (a + 1)) = t by omega, ← hu]; simp only [f_t3, if_neg c6, if_pos c9])
                      · refine z_aload_n F 0 dX6_countTriangles_60 rfl rfl ?_
                        refine z_iload F 5 dX6_countTriangles_61 rfl ?_
                        refine z_iload_n F 3 dX6_countTriangles_63 rfl rfl ?_
                        refine z_calli0 F (z_runV (st := []) F zNo_ok trivial (fun sz => c_X6_owes l D g k0 k1 k2 k3 k4 k5 (f_mat am) t a (by omega) (by omega) sz) (cwV 2 F.1.2.2.2.2 gX6_countTriangles_X6_owes rfl rfl rfl (by decide +kernel) ⟨Nat.le_of_ble_eq_true rfl, Nat.le_of_ble_eq_true rfl⟩) 1 rfl rfl rfl [] [1, 0] rfl rfl (by decide) rfl rfl (Nat.le_of_ble_eq_true rfl) dX6_countTriangles_64 ⟨Nat.le_of_ble_eq_true rfl, Nat.le_of_ble_eq_true rfl⟩) (fun r11 _ hw10 => ?_)
                        subst hw10
                        refine z_if_eq (tgt := 73) F dX6_countTriangles_67 (by decide) (fun c12 => ?_) (fun c12 => ?_)
                        · refine z_iinc (v := nI (t + 1)) (lv' := [(5, .int (nI (t + 1))), (0, .ref k0), (1, .ref q0), (2, .int u), (3, .int (nI a)), (4, .int (nI b))]) F dX6_countTriangles_73 5 rfl (nI_1 t) (by decide) rfl ?_
                          refine z_goto (tgt := 32) F dX6_countTriangles_76 (by decide) ?_
                          refine z_loc (lv' := [(0, .ref k0), (1, .ref q0), (2, .int u), (3, .int (nI a)), (4, .int (nI b)), (5, .int (nI (t + 1)))]) [1, 2, 3, 4, 5, 0] rfl ?_
                          exact ih32 (t + 1) u (by omega) (by omega) (by rw [show t + 1 - (a + 1) = (t - (a + 1)) + 1 by omega]; show _ = f_t3 (f_mat am) a b (a + 1 + (t - (a + 1))) (f_tr3 (f_mat am) a b w (t - (a + 1))); rw [show a + 1 + (t - (a + 1)) = t by omega, ← hu]; simp only [f_t3, if_neg c6, if_neg c9, if_pos c12])
                        · refine z_iinc (v := u + 1) (lv' := [(2, .int (u + 1)), (0, .ref k0), (1, .ref q0), (3, .int (nI a)), (4, .int (nI b)), (5, .int (nI t))]) F dX6_countTriangles_70 2 rfl (rfl) (by decide) rfl ?_
                          refine z_iinc (v := nI (t + 1)) (lv' := [(5, .int (nI (t + 1))), (2, .int (u + 1)), (0, .ref k0), (1, .ref q0), (3, .int (nI a)), (4, .int (nI b))]) F dX6_countTriangles_73 5 rfl (nI_1 t) (by decide) rfl ?_
                          refine z_goto (tgt := 32) F dX6_countTriangles_76 (by decide) ?_
                          refine z_loc (lv' := [(0, .ref k0), (1, .ref q0), (2, .int (u + 1)), (3, .int (nI a)), (4, .int (nI b)), (5, .int (nI (t + 1)))]) [2, 3, 1, 4, 5, 0] rfl ?_
                          exact ih32 (t + 1) (u + 1) (by omega) (by omega) (by rw [show t + 1 - (a + 1) = (t - (a + 1)) + 1 by omega]; show _ = f_t3 (f_mat am) a b (a + 1 + (t - (a + 1))) (f_tr3 (f_mat am) a b w (t - (a + 1))); rw [show a + 1 + (t - (a + 1)) = t by omega, ← hu]; simp only [f_t3, if_neg c6, if_neg c9, if_neg c12])
              refine z_loc (lv' := [(0, .ref k0), (1, .ref q0), (2, .int w), (3, .int (nI a)), (4, .int (nI b)), (5, .int (nI (a + 1)))]) [1, 2, 3, 4, 5, 0] rfl ?_
              exact L32 _ (a + 1) w (Nat.lt_succ_self _) (by omega) (by rw [Nat.sub_self]; rfl)
        refine z_loc (lv' := [(0, .ref k0), (1, .ref q0), (2, .int v), (3, .int (nI a)), (4, .int (nI (a + 1)))]) [1, 2, 3, 4, 0] rfl ?_
        exact L20 _ (a + 1) v (Nat.lt_succ_self _) (by omega) (by rw [Nat.sub_self]; rfl)
  show zW p l e { frames := 1, cells := 0, slots := 0, locals := 22 } s m args below meth c 6 D A Q 0 0 [(k1, .inl (g 0, 64, .inl mt))] [(0, .ref k0), (1, .ref q0)] [] 0
  refine z_aload_n F 0 dX6_countTriangles_0 rfl rfl ?_
  refine z_aload_n F 1 dX6_countTriangles_1 rfl rfl ?_
  refine z_callv (wn := []) (wf := fun _ => [(k1, .inl (g 0, 64, .inl (f_mat am)))]) F (z_runV (st := []) F (zEnv_ok er) E (fun sz => c_X6_drawMatrix l D g er k0 k1 k2 k3 k4 k5 mt q0 q1 q2 q3 q4 q5 q6 am mc hc ne lo sz) (cwV 1 F.1.2.2.2.2 gX6_countTriangles_X6_drawMatrix rfl rfl rfl (by decide +kernel) ⟨Nat.le_of_ble_eq_true rfl, Nat.le_of_ble_eq_true rfl⟩) 1 rfl rfl rfl [0] [1, 2, 3] rfl rfl (by decide) rfl rfl (Nat.le_of_ble_eq_true rfl) dX6_countTriangles_2 ⟨Nat.le_of_ble_eq_true rfl, Nat.le_of_ble_eq_true rfl⟩) [0] [] [0] rfl rfl (by decide) (by decide) (by decide) (fun _ => rfl) (fun _ hw13 => ?_)
  clear hw13
  refine z_iconst (v := 0) F dX6_countTriangles_5 (by decide) ?_
  refine z_istore_n (lv' := [(2, .int 0), (0, .ref k0), (1, .ref q0)]) F dX6_countTriangles_6 rfl (by decide) rfl ?_
  refine z_iconst (v := 0) F dX6_countTriangles_7 (by decide) ?_
  refine z_istore_n (lv' := [(3, .int 0), (2, .int 0), (0, .ref k0), (1, .ref q0)]) F dX6_countTriangles_8 rfl (by decide) rfl ?_
  refine z_loc (lv' := [(0, .ref k0), (1, .ref q0), (2, .int 0), (3, .int (nI 0))]) [2, 3, 1, 0] rfl ?_
  exact L9 _ 0 0 (Nat.lt_succ_self _) (by omega) rfl
