/-! PURE FUNCTIONS of a ledger: what each method answers -/
def f_has (mc : Nat) (v : Int32) : Int32 := if v < 0 then 0 else if nI mc ≤ v then 0 else 1
def f_debitN (am : Nat → Int32) (x : Nat) : Nat → Int32 | 0 => 0 | i + 1 => f_debitN am x i + am (8 * x + i)
def f_debit (am : Nat → Int32) (x : Nat) : Int32 := f_debitN am x 8
def f_creditN (am : Nat → Int32) (x : Nat) : Nat → Int32 | 0 => 0 | i + 1 => f_creditN am x i + am (8 * i + x)
def f_credit (am : Nat → Int32) (x : Nat) : Int32 := f_creditN am x 8
def f_pos (am : Nat → Int32) (x : Nat) : Int32 := f_credit am x - f_debit am x
def f_cover (ca : Nat → Int32) (hc : Int32) (x : Nat) : Int32 := ca x * (100 - hc) / 100
def f_means (co ca : Nat → Int32) (hc : Int32) (x : Nat) : Int32 := co x + f_cover ca hc x
def f_loss (am co ca : Nat → Int32) (hc : Int32) (x : Nat) : Int32 := f_debit am x - f_means co ca hc x
def f_cntN (am : Nat → Int32) : Nat → Int32 | 0 => 0 | i + 1 => if am i ≤ 0 then f_cntN am i else f_cntN am i + 1
def f_cnt (am : Nat → Int32) : Int32 := f_cntN am 64
def f_placeN (am : Nat → Int32) : Nat → Int32 × Int32 | 0 => (0, -1) | i + 1 => if am i ≤ (f_placeN am i).1 then f_placeN am i else (am i, nI i)
def f_place (am : Nat → Int32) : Int32 := (f_placeN am 64).2
def f_absN (am : Nat → Int32) : Nat → Int32 | 0 => 0 | i + 1 => f_absN am i + z_abs (f_pos am i)
def f_cmp (v w : Int32) : Int32 := if w ≤ v then (if v = w then 0 else 1) else -1
def f_ahead (am co : Nat → Int32) (x y : Nat) : Int32 := if f_cmp (f_pos am x) (f_pos am y) = 0 then (if co x = co y then (if nI y ≤ nI x then 0 else 1) else if co x ≤ co y then 0 else 1) else if f_cmp (f_pos am x) (f_pos am y) ≤ 0 then 0 else 1
def f_caN (am co : Nat → Int32) (x : Nat) : Nat → Int32 | 0 => 0 | i + 1 => if f_ahead am co i x = 0 then f_caN am co x i else f_caN am co x i + 1
def f_rankF (am co : Nat → Int32) (mc : Nat) (v : Int32) : Nat → Nat → Int32 | 0, _ => -1 | k + 1, i => if f_caN am co i mc = v then nI i else f_rankF am co mc v k (i + 1)
def f_rank (am co : Nat → Int32) (mc : Nat) (v : Int32) : Int32 := f_rankF am co mc v mc 0
def f_chA (am : Nat → Int32) (x y : Nat) (v : Int32) : Nat → Int32 := upd am (8 * x + y) (am (8 * x + y) + v)
def f_chC (ac : Nat → Int32) (x y : Nat) (v : Int32) : Nat → Int32 := upd (upd ac x (ac x - v)) y ((upd ac x (ac x - v)) y + v)
def f_pyC (co : Nat → Int32) (x y : Nat) (v : Int32) : Nat → Int32 := upd (upd co x (co x - v)) y ((upd co x (co x - v)) y + v)
def f_n2 (am : Nat → Int32) (x y : Nat) : Int32 := z_min (am (8 * x + y)) (am (8 * y + x))
def f_n3 (am : Nat → Int32) (x y z : Nat) : Int32 := z_min (z_min (am (8 * x + y)) (am (8 * y + z))) (am (8 * z + x))
def f_fgN (am ac : Nat → Int32) (x : Nat) : Nat → (Nat → Int32) × (Nat → Int32) | 0 => (am, ac) | i + 1 => (f_chA (f_fgN am ac x i).1 x i (-((f_fgN am ac x i).1 (8 * x + i))), f_chC (f_fgN am ac x i).2 x i (-((f_fgN am ac x i).1 (8 * x + i))))
set_option maxHeartbeats 4000000 in
set_option maxRecDepth 100000 in
/-- the member is one of those that joined -/
theorem c_X5_hasMember (l : Launch) (D : va_G) (g : Nat → ClassId) (q0 : Nat) (q1 : Nat) (q2 : Nat) (q3 : Nat) (q4 : Nat) (q5 : Nat) (q6 : Nat) (mc : Nat) (hc : Int32) (ne : Int32) (lo : Int32) (v : Int32) (sz : Nat) : Met l yX5_hasMember wsX5_hasMember { frames := 0, cells := 0, slots := 0, locals := 0 } (zPc D (gT g) zNo [.ref q0, .int v] [] [(q0, .inr (7, [.ref q1, .ref q2, .ref q3, .ref q4, .ref q5, .ref q6, .int (nI mc), .int hc, .int ne, .int lo]))] sz) (zQi D [] (fun (r : Int32) (_ : Unit) => r = f_has mc v) (fun _ => []) sz) 0 0 (va_A [] sz) := by
  refine z_met (y := yX5_hasMember) (cc := cX5_hasMember) (nL := 2) (rm := { frames := 0, cells := 0, slots := 0, locals := 0 }) (D := D) (tys := gT g) (wr := [(q0, .inr (7, [.ref q1, .ref q2, .ref q3, .ref q4, .ref q5, .ref q6, .int (nI mc), .int hc, .int ne, .int lo]))]) (P0 := zNo) (As := [.ref q0, .int v]) (ww := []) (Qc := zQi D [] (fun (r : Int32) (_ : Unit) => r = f_has mc v) (fun _ => [])) (ret := (some .boolean)) (by decide) rfl (Nat.le_of_ble_eq_true rfl) ?_ sz
  intro p e s m args below meth c A Q hA hQ F E hr hlk hin
  show zW p l e { frames := 0, cells := 0, slots := 0, locals := 0 } s m args below meth c 2 D A Q 0 0 [] [(0, .ref q0), (1, .int v)] [] 0
  refine z_iload_n F 1 dX5_hasMember_0 rfl rfl ?_
  refine z_if_lt (tgt := 16) F dX5_hasMember_1 (by decide) (fun c1 => ?_) (fun c1 => ?_)
  · refine z_iconst (v := 0) F dX5_hasMember_16 (by decide) ?_
    exact z_zret F hA hQ hlk hr (rfl) () (by simp only [f_has, if_pos c1]) (rfl) dX5_hasMember_17
  · refine z_iload_n F 1 dX5_hasMember_4 rfl rfl ?_
    refine z_aload_n F 0 dX5_hasMember_5 rfl rfl ?_
    refine z_get (C := RX5) (T := TX5) (N := 10) F (fun w h => List.mem_cons_of_mem _ (List.mem_append_right _ (h))) 0 rfl rfl 6 (by decide) (List.mem_cons_of_mem _ (List.mem_append_left _ (List.mem_of_getElem? (i := 0) rfl))) rfl rfl dX5_hasMember_6 ?_
    refine z_icmp_ge (tgt := 16) F dX5_hasMember_9 (by decide) (fun c2 => ?_) (fun c2 => ?_)
    · refine z_iconst (v := 0) F dX5_hasMember_16 (by decide) ?_
      exact z_zret F hA hQ hlk hr (rfl) () (by simp only [f_has, if_neg c1, if_pos c2]) (rfl) dX5_hasMember_17
    · refine z_iconst (v := 1) F dX5_hasMember_12 (by decide) ?_
      refine z_goto (tgt := 17) F dX5_hasMember_13 (by decide) ?_
      exact z_zret F hA hQ hlk hr (rfl) () (by simp only [f_has, if_neg c1, if_neg c2]) (rfl) dX5_hasMember_17
set_option maxHeartbeats 4000000 in
set_option maxRecDepth 100000 in
theorem c_X5_amountOwed (l : Launch) (D : va_G) (g : Nat → ClassId) (q0 : Nat) (q1 : Nat) (q2 : Nat) (q3 : Nat) (q4 : Nat) (q5 : Nat) (q6 : Nat) (am : Nat → Int32) (mc : Nat) (hc : Int32) (ne : Int32) (lo : Int32) (x : Nat) (y : Nat) (hx : x < 8) (hy : y < 8) (sz : Nat) : Met l yX5_amountOwed wsX5_amountOwed { frames := 0, cells := 0, slots := 0, locals := 0 } (zPc D (gT g) zNo [.ref q0, .int (nI x), .int (nI y)] [] [(q0, .inr (7, [.ref q1, .ref q2, .ref q3, .ref q4, .ref q5, .ref q6, .int (nI mc), .int hc, .int ne, .int lo])), (q1, .inl (g 0, 64, .inl am))] sz) (zQi D [] (fun (r : Int32) (_ : Unit) => r = am (8 * x + y)) (fun _ => []) sz) 0 0 (va_A [] sz) := by
  refine z_met (y := yX5_amountOwed) (cc := cX5_amountOwed) (nL := 3) (rm := { frames := 0, cells := 0, slots := 0, locals := 0 }) (D := D) (tys := gT g) (wr := [(q0, .inr (7, [.ref q1, .ref q2, .ref q3, .ref q4, .ref q5, .ref q6, .int (nI mc), .int hc, .int ne, .int lo])), (q1, .inl (g 0, 64, .inl am))]) (P0 := zNo) (As := [.ref q0, .int (nI x), .int (nI y)]) (ww := []) (Qc := zQi D [] (fun (r : Int32) (_ : Unit) => r = am (8 * x + y)) (fun _ => [])) (ret := (some .int)) (by decide) rfl (Nat.le_of_ble_eq_true rfl) ?_ sz
  intro p e s m args below meth c A Q hA hQ F E hr hlk hin
  show zW p l e { frames := 0, cells := 0, slots := 0, locals := 0 } s m args below meth c 3 D A Q 0 0 [] [(0, .ref q0), (1, .int (nI x)), (2, .int (nI y))] [] 0
  refine z_aload_n F 0 dX5_amountOwed_0 rfl rfl ?_
  refine z_get (C := RX5) (T := TX5) (N := 10) F (fun w h => List.mem_cons_of_mem _ (List.mem_append_left _ (List.mem_append_right _ (h)))) 0 rfl rfl 0 (by decide) (List.mem_cons_of_mem _ (List.mem_append_left _ (List.mem_append_left _ (List.mem_of_getElem? (i := 0) rfl)))) rfl rfl dX5_amountOwed_1 ?_
  refine z_iload_n F 1 dX5_amountOwed_4 rfl rfl ?_
  refine z_bipush (v := 8) F dX5_amountOwed_5 (by decide) ?_
  refine z_imul F dX5_amountOwed_7 ?_
  refine z_iload_n F 2 dX5_amountOwed_8 rfl rfl ?_
  refine z_iadd F dX5_amountOwed_9 ?_
  refine z_top (y := nI (8 * x + y)) (z_ix x y) ?_
  refine z_ialdN (j := 8 * x + y) F 1 0 rfl rfl (by omega) (by decide) dX5_amountOwed_10 ?_
  exact z_iret F hA hQ hlk hr () (rfl) (rfl) dX5_amountOwed_11
set_option maxHeartbeats 4000000 in
set_option maxRecDepth 100000 in
theorem c_X5_debitOf (l : Launch) (D : va_G) (g : Nat → ClassId) (q0 : Nat) (q1 : Nat) (q2 : Nat) (q3 : Nat) (q4 : Nat) (q5 : Nat) (q6 : Nat) (am : Nat → Int32) (mc : Nat) (hc : Int32) (ne : Int32) (lo : Int32) (x : Nat) (hx : x < 8) (sz : Nat) : Met l yX5_debitOf wsX5_debitOf { frames := 1, cells := 0, slots := 0, locals := 22 } (zPc D (gT g) zNo [.ref q0, .int (nI x)] [] [(q0, .inr (7, [.ref q1, .ref q2, .ref q3, .ref q4, .ref q5, .ref q6, .int (nI mc), .int hc, .int ne, .int lo])), (q1, .inl (g 0, 64, .inl am))] sz) (zQi D [] (fun (r : Int32) (_ : Unit) => r = f_debit am x) (fun _ => []) sz) 0 0 (va_A [] sz) := by
  refine z_met (y := yX5_debitOf) (cc := cX5_debitOf) (nL := 4) (rm := { frames := 1, cells := 0, slots := 0, locals := 22 }) (D := D) (tys := gT g) (wr := [(q0, .inr (7, [.ref q1, .ref q2, .ref q3, .ref q4, .ref q5, .ref q6, .int (nI mc), .int hc, .int ne, .int lo])), (q1, .inl (g 0, 64, .inl am))]) (P0 := zNo) (As := [.ref q0, .int (nI x)]) (ww := []) (Qc := zQi D [] (fun (r : Int32) (_ : Unit) => r = f_debit am x) (fun _ => [])) (ret := (some .int)) (by decide) rfl (Nat.le_of_ble_eq_true rfl) ?_ sz
  intro p e s m args below meth c A Q hA hQ F E hr hlk hin
  have L4 : ∀ (N4_ : Nat) (i : Nat) (v : Int32) (hN4_ : 8 - i < N4_) (hi : i ≤ 8) (hv : v = f_debitN am x i), zW p l e { frames := 1, cells := 0, slots := 0, locals := 22 } s m args below meth c 4 D A Q 0 0 [] [(0, .ref q0), (1, .int (nI x)), (2, .int v), (3, .int (nI i))] [] 4 := by
    intro N4_
    induction N4_ with
    | zero =>
      intro i v hN4_
      exact absurd hN4_ (Nat.not_lt_zero _)
    | succ N4_ ih4 =>
      intro i v hN4_ hi hv
      refine z_iload_n F 3 dX5_debitOf_4 rfl rfl ?_
      refine z_bipush (v := 8) F dX5_debitOf_5 (by decide) ?_
      refine z_icmp_ge (tgt := 25) F dX5_debitOf_7 (by decide) (fun c1 => ?_) (fun c1 => ?_)
      · have hi8 : i = 8 := by have := z_ge (by omega) (by decide) (show nI 8 ≤ nI i from c1); omega
        refine z_iload_n F 2 dX5_debitOf_25 rfl rfl ?_
        exact z_iret F hA hQ hlk hr () (by rw [hv, hi8]; rfl) (rfl) dX5_debitOf_26
      · have hi8 : i < 8 := z_lt (by omega) (by decide) c1
        refine z_iload_n F 2 dX5_debitOf_10 rfl rfl ?_
        refine z_aload_n F 0 dX5_debitOf_11 rfl rfl ?_
        refine z_iload_n F 1 dX5_debitOf_12 rfl rfl ?_
        refine z_iload_n F 3 dX5_debitOf_13 rfl rfl ?_
        refine z_calli0 F (z_runV (st := [.int v]) F zNo_ok trivial (fun sz => c_X5_amountOwed l D g q0 q1 q2 q3 q4 q5 q6 am mc hc ne lo x i (by omega) (by omega) sz) (cwV 2 F.1.2.2.2.2 gX5_debitOf_X5_amountOwed rfl rfl rfl (by decide +kernel) ⟨Nat.le_of_ble_eq_true rfl, Nat.le_of_ble_eq_true rfl⟩) 0 rfl rfl rfl [] [0, 1] rfl rfl (by decide) rfl rfl (Nat.le_of_ble_eq_true rfl) dX5_debitOf_14 ⟨Nat.le_of_ble_eq_true rfl, Nat.le_of_ble_eq_true rfl⟩) (fun r3 _ hw2 => ?_)
        subst hw2
        refine z_iadd F dX5_debitOf_17 ?_
        refine z_istore_n (lv' := [(2, .int (v + (am (8 * x + i)))), (0, .ref q0), (1, .int (nI x)), (3, .int (nI i))]) F dX5_debitOf_18 rfl (by decide) rfl ?_
        refine z_iinc (v := nI (i + 1)) (lv' := [(3, .int (nI (i + 1))), (2, .int (v + (am (8 * x + i)))), (0, .ref q0), (1, .int (nI x))]) F dX5_debitOf_19 3 rfl (nI_1 i) (by decide) rfl ?_
        refine z_goto (tgt := 4) F dX5_debitOf_22 (by decide) ?_
        refine z_loc (lv' := [(0, .ref q0), (1, .int (nI x)), (2, .int (v + (am (8 * x + i)))), (3, .int (nI (i + 1)))]) [2, 3, 1, 0] rfl ?_
        exact ih4 (i + 1) (v + (am (8 * x + i))) (by omega) (by omega) (by first | rfl | (rw [hv]; rfl))
  show zW p l e { frames := 1, cells := 0, slots := 0, locals := 22 } s m args below meth c 4 D A Q 0 0 [] [(0, .ref q0), (1, .int (nI x))] [] 0
  refine z_iconst (v := 0) F dX5_debitOf_0 (by decide) ?_
  refine z_istore_n (lv' := [(2, .int 0), (0, .ref q0), (1, .int (nI x))]) F dX5_debitOf_1 rfl (by decide) rfl ?_
  refine z_iconst (v := 0) F dX5_debitOf_2 (by decide) ?_
  refine z_istore_n (lv' := [(3, .int 0), (2, .int 0), (0, .ref q0), (1, .int (nI x))]) F dX5_debitOf_3 rfl (by decide) rfl ?_
  refine z_loc (lv' := [(0, .ref q0), (1, .int (nI x)), (2, .int 0), (3, .int (nI 0))]) [2, 3, 1, 0] rfl ?_
  exact L4 _ 0 0 (Nat.lt_succ_self _) (by omega) (by first | rfl | (rw [hv]; rfl))
set_option maxHeartbeats 4000000 in
set_option maxRecDepth 100000 in
theorem c_X5_creditOf (l : Launch) (D : va_G) (g : Nat → ClassId) (q0 : Nat) (q1 : Nat) (q2 : Nat) (q3 : Nat) (q4 : Nat) (q5 : Nat) (q6 : Nat) (am : Nat → Int32) (mc : Nat) (hc : Int32) (ne : Int32) (lo : Int32) (x : Nat) (hx : x < 8) (sz : Nat) : Met l yX5_creditOf wsX5_creditOf { frames := 1, cells := 0, slots := 0, locals := 22 } (zPc D (gT g) zNo [.ref q0, .int (nI x)] [] [(q0, .inr (7, [.ref q1, .ref q2, .ref q3, .ref q4, .ref q5, .ref q6, .int (nI mc), .int hc, .int ne, .int lo])), (q1, .inl (g 0, 64, .inl am))] sz) (zQi D [] (fun (r : Int32) (_ : Unit) => r = f_credit am x) (fun _ => []) sz) 0 0 (va_A [] sz) := by
  refine z_met (y := yX5_creditOf) (cc := cX5_creditOf) (nL := 4) (rm := { frames := 1, cells := 0, slots := 0, locals := 22 }) (D := D) (tys := gT g) (wr := [(q0, .inr (7, [.ref q1, .ref q2, .ref q3, .ref q4, .ref q5, .ref q6, .int (nI mc), .int hc, .int ne, .int lo])), (q1, .inl (g 0, 64, .inl am))]) (P0 := zNo) (As := [.ref q0, .int (nI x)]) (ww := []) (Qc := zQi D [] (fun (r : Int32) (_ : Unit) => r = f_credit am x) (fun _ => [])) (ret := (some .int)) (by decide) rfl (Nat.le_of_ble_eq_true rfl) ?_ sz
  intro p e s m args below meth c A Q hA hQ F E hr hlk hin
  have L4 : ∀ (N4_ : Nat) (i : Nat) (v : Int32) (hN4_ : 8 - i < N4_) (hi : i ≤ 8) (hv : v = f_creditN am x i), zW p l e { frames := 1, cells := 0, slots := 0, locals := 22 } s m args below meth c 4 D A Q 0 0 [] [(0, .ref q0), (1, .int (nI x)), (2, .int v), (3, .int (nI i))] [] 4 := by
    intro N4_
    induction N4_ with
    | zero =>
      intro i v hN4_
      exact absurd hN4_ (Nat.not_lt_zero _)
    | succ N4_ ih4 =>
      intro i v hN4_ hi hv
      refine z_iload_n F 3 dX5_creditOf_4 rfl rfl ?_
      refine z_bipush (v := 8) F dX5_creditOf_5 (by decide) ?_
      refine z_icmp_ge (tgt := 25) F dX5_creditOf_7 (by decide) (fun c1 => ?_) (fun c1 => ?_)
      · have hi8 : i = 8 := by have := z_ge (by omega) (by decide) (show nI 8 ≤ nI i from c1); omega
        refine z_iload_n F 2 dX5_creditOf_25 rfl rfl ?_
        exact z_iret F hA hQ hlk hr () (by rw [hv, hi8]; rfl) (rfl) dX5_creditOf_26
      · have hi8 : i < 8 := z_lt (by omega) (by decide) c1
        refine z_iload_n F 2 dX5_creditOf_10 rfl rfl ?_
        refine z_aload_n F 0 dX5_creditOf_11 rfl rfl ?_
        refine z_iload_n F 3 dX5_creditOf_12 rfl rfl ?_
        refine z_iload_n F 1 dX5_creditOf_13 rfl rfl ?_
        refine z_calli0 F (z_runV (st := [.int v]) F zNo_ok trivial (fun sz => c_X5_amountOwed l D g q0 q1 q2 q3 q4 q5 q6 am mc hc ne lo i x (by omega) (by omega) sz) (cwV 2 F.1.2.2.2.2 gX5_creditOf_X5_amountOwed rfl rfl rfl (by decide +kernel) ⟨Nat.le_of_ble_eq_true rfl, Nat.le_of_ble_eq_true rfl⟩) 0 rfl rfl rfl [] [0, 1] rfl rfl (by decide) rfl rfl (Nat.le_of_ble_eq_true rfl) dX5_creditOf_14 ⟨Nat.le_of_ble_eq_true rfl, Nat.le_of_ble_eq_true rfl⟩) (fun r3 _ hw2 => ?_)
        subst hw2
        refine z_iadd F dX5_creditOf_17 ?_
        refine z_istore_n (lv' := [(2, .int (v + (am (8 * i + x)))), (0, .ref q0), (1, .int (nI x)), (3, .int (nI i))]) F dX5_creditOf_18 rfl (by decide) rfl ?_
        refine z_iinc (v := nI (i + 1)) (lv' := [(3, .int (nI (i + 1))), (2, .int (v + (am (8 * i + x)))), (0, .ref q0), (1, .int (nI x))]) F dX5_creditOf_19 3 rfl (nI_1 i) (by decide) rfl ?_
        refine z_goto (tgt := 4) F dX5_creditOf_22 (by decide) ?_
        refine z_loc (lv' := [(0, .ref q0), (1, .int (nI x)), (2, .int (v + (am (8 * i + x)))), (3, .int (nI (i + 1)))]) [2, 3, 1, 0] rfl ?_
        exact ih4 (i + 1) (v + (am (8 * i + x))) (by omega) (by omega) (by first | rfl | (rw [hv]; rfl))
  show zW p l e { frames := 1, cells := 0, slots := 0, locals := 22 } s m args below meth c 4 D A Q 0 0 [] [(0, .ref q0), (1, .int (nI x))] [] 0
  refine z_iconst (v := 0) F dX5_creditOf_0 (by decide) ?_
  refine z_istore_n (lv' := [(2, .int 0), (0, .ref q0), (1, .int (nI x))]) F dX5_creditOf_1 rfl (by decide) rfl ?_
  refine z_iconst (v := 0) F dX5_creditOf_2 (by decide) ?_
  refine z_istore_n (lv' := [(3, .int 0), (2, .int 0), (0, .ref q0), (1, .int (nI x))]) F dX5_creditOf_3 rfl (by decide) rfl ?_
  refine z_loc (lv' := [(0, .ref q0), (1, .int (nI x)), (2, .int 0), (3, .int (nI 0))]) [2, 3, 1, 0] rfl ?_
  exact L4 _ 0 0 (Nat.lt_succ_self _) (by omega) (by first | rfl | (rw [hv]; rfl))
set_option maxHeartbeats 4000000 in
set_option maxRecDepth 100000 in
theorem c_X5_positionOf (l : Launch) (D : va_G) (g : Nat → ClassId) (q0 : Nat) (q1 : Nat) (q2 : Nat) (q3 : Nat) (q4 : Nat) (q5 : Nat) (q6 : Nat) (am : Nat → Int32) (mc : Nat) (hc : Int32) (ne : Int32) (lo : Int32) (x : Nat) (hx : x < 8) (sz : Nat) : Met l yX5_positionOf wsX5_positionOf { frames := 2, cells := 0, slots := 0, locals := 45 } (zPc D (gT g) zNo [.ref q0, .int (nI x)] [] [(q0, .inr (7, [.ref q1, .ref q2, .ref q3, .ref q4, .ref q5, .ref q6, .int (nI mc), .int hc, .int ne, .int lo])), (q1, .inl (g 0, 64, .inl am))] sz) (zQi D [] (fun (r : Int32) (_ : Unit) => r = f_pos am x) (fun _ => []) sz) 0 0 (va_A [] sz) := by
  refine z_met (y := yX5_positionOf) (cc := cX5_positionOf) (nL := 2) (rm := { frames := 2, cells := 0, slots := 0, locals := 45 }) (D := D) (tys := gT g) (wr := [(q0, .inr (7, [.ref q1, .ref q2, .ref q3, .ref q4, .ref q5, .ref q6, .int (nI mc), .int hc, .int ne, .int lo])), (q1, .inl (g 0, 64, .inl am))]) (P0 := zNo) (As := [.ref q0, .int (nI x)]) (ww := []) (Qc := zQi D [] (fun (r : Int32) (_ : Unit) => r = f_pos am x) (fun _ => [])) (ret := (some .int)) (by decide) rfl (Nat.le_of_ble_eq_true rfl) ?_ sz
  intro p e s m args below meth c A Q hA hQ F E hr hlk hin
  show zW p l e { frames := 2, cells := 0, slots := 0, locals := 45 } s m args below meth c 2 D A Q 0 0 [] [(0, .ref q0), (1, .int (nI x))] [] 0
  refine z_aload_n F 0 dX5_positionOf_0 rfl rfl ?_
  refine z_iload_n F 1 dX5_positionOf_1 rfl rfl ?_
  refine z_calli0 F (z_runV (st := []) F zNo_ok trivial (fun sz => c_X5_creditOf l D g q0 q1 q2 q3 q4 q5 q6 am mc hc ne lo x (by omega) sz) (cwV 1 F.1.2.2.2.2 gX5_positionOf_X5_creditOf rfl rfl rfl (by decide +kernel) ⟨Nat.le_of_ble_eq_true rfl, Nat.le_of_ble_eq_true rfl⟩) 0 rfl rfl rfl [] [0, 1] rfl rfl (by decide) rfl rfl (Nat.le_of_ble_eq_true rfl) dX5_positionOf_2 ⟨Nat.le_of_ble_eq_true rfl, Nat.le_of_ble_eq_true rfl⟩) (fun r2 _ hw1 => ?_)
  subst hw1
  refine z_aload_n F 0 dX5_positionOf_5 rfl rfl ?_
  refine z_iload_n F 1 dX5_positionOf_6 rfl rfl ?_
  refine z_calli0 F (z_runV (st := [.int (f_credit am x)]) F zNo_ok trivial (fun sz => c_X5_debitOf l D g q0 q1 q2 q3 q4 q5 q6 am mc hc ne lo x (by omega) sz) (cwV 1 F.1.2.2.2.2 gX5_positionOf_X5_debitOf rfl rfl rfl (by decide +kernel) ⟨Nat.le_of_ble_eq_true rfl, Nat.le_of_ble_eq_true rfl⟩) 0 rfl rfl rfl [] [0, 1] rfl rfl (by decide) rfl rfl (Nat.le_of_ble_eq_true rfl) dX5_positionOf_7 ⟨Nat.le_of_ble_eq_true rfl, Nat.le_of_ble_eq_true rfl⟩) (fun r4 _ hw3 => ?_)
  subst hw3
  refine z_isub F dX5_positionOf_10 ?_
  exact z_iret F hA hQ hlk hr () (rfl) (rfl) dX5_positionOf_11
set_option maxHeartbeats 4000000 in
set_option maxRecDepth 100000 in
theorem c_X5_coverOf (l : Launch) (D : va_G) (g : Nat → ClassId) (q0 : Nat) (q1 : Nat) (q2 : Nat) (q3 : Nat) (q4 : Nat) (q5 : Nat) (q6 : Nat) (ca : Nat → Int32) (mc : Nat) (hc : Int32) (ne : Int32) (lo : Int32) (x : Nat) (hx : x < 8) (sz : Nat) : Met l yX5_coverOf wsX5_coverOf { frames := 0, cells := 0, slots := 0, locals := 0 } (zPc D (gT g) zNo [.ref q0, .int (nI x)] [] [(q0, .inr (7, [.ref q1, .ref q2, .ref q3, .ref q4, .ref q5, .ref q6, .int (nI mc), .int hc, .int ne, .int lo])), (q3, .inl (g 0, 8, .inl ca))] sz) (zQi D [] (fun (r : Int32) (_ : Unit) => r = f_cover ca hc x) (fun _ => []) sz) 0 0 (va_A [] sz) := by
  refine z_met (y := yX5_coverOf) (cc := cX5_coverOf) (nL := 2) (rm := { frames := 0, cells := 0, slots := 0, locals := 0 }) (D := D) (tys := gT g) (wr := [(q0, .inr (7, [.ref q1, .ref q2, .ref q3, .ref q4, .ref q5, .ref q6, .int (nI mc), .int hc, .int ne, .int lo])), (q3, .inl (g 0, 8, .inl ca))]) (P0 := zNo) (As := [.ref q0, .int (nI x)]) (ww := []) (Qc := zQi D [] (fun (r : Int32) (_ : Unit) => r = f_cover ca hc x) (fun _ => [])) (ret := (some .int)) (by decide) rfl (Nat.le_of_ble_eq_true rfl) ?_ sz
  intro p e s m args below meth c A Q hA hQ F E hr hlk hin
  show zW p l e { frames := 0, cells := 0, slots := 0, locals := 0 } s m args below meth c 2 D A Q 0 0 [] [(0, .ref q0), (1, .int (nI x))] [] 0
  refine z_aload_n F 0 dX5_coverOf_0 rfl rfl ?_
  refine z_get (C := RX5) (T := TX5) (N := 10) F (fun w h => List.mem_cons_of_mem _ (List.mem_append_left _ (List.mem_append_right _ (h)))) 0 rfl rfl 2 (by decide) (List.mem_cons_of_mem _ (List.mem_append_left _ (List.mem_append_left _ (List.mem_of_getElem? (i := 0) rfl)))) rfl rfl dX5_coverOf_1 ?_
  refine z_iload_n F 1 dX5_coverOf_4 rfl rfl ?_
  refine z_ialdN (j := x) F 1 0 rfl rfl (by omega) (by decide) dX5_coverOf_5 ?_
  refine z_bipush (v := 100) F dX5_coverOf_6 (by decide) ?_
  refine z_aload_n F 0 dX5_coverOf_8 rfl rfl ?_
  refine z_get (C := RX5) (T := TX5) (N := 10) F (fun w h => List.mem_cons_of_mem _ (List.mem_append_left _ (List.mem_append_right _ (h)))) 0 rfl rfl 7 (by decide) (List.mem_cons_of_mem _ (List.mem_append_left _ (List.mem_append_left _ (List.mem_of_getElem? (i := 1) rfl)))) rfl rfl dX5_coverOf_9 ?_
  refine z_isub F dX5_coverOf_12 ?_
  refine z_imul F dX5_coverOf_13 ?_
  refine z_bipush (v := 100) F dX5_coverOf_14 (by decide) ?_
  refine z_idiv F dX5_coverOf_16 (by decide) ?_
  exact z_iret F hA hQ hlk hr () (rfl) (rfl) dX5_coverOf_17
set_option maxHeartbeats 4000000 in
set_option maxRecDepth 100000 in
theorem c_X5_meansOf (l : Launch) (D : va_G) (g : Nat → ClassId) (q0 : Nat) (q1 : Nat) (q2 : Nat) (q3 : Nat) (q4 : Nat) (q5 : Nat) (q6 : Nat) (co : Nat → Int32) (ca : Nat → Int32) (mc : Nat) (hc : Int32) (ne : Int32) (lo : Int32) (x : Nat) (hx : x < 8) (sz : Nat) : Met l yX5_meansOf wsX5_meansOf { frames := 1, cells := 0, slots := 0, locals := 21 } (zPc D (gT g) zNo [.ref q0, .int (nI x)] [] [(q0, .inr (7, [.ref q1, .ref q2, .ref q3, .ref q4, .ref q5, .ref q6, .int (nI mc), .int hc, .int ne, .int lo])), (q2, .inl (g 0, 8, .inl co)), (q3, .inl (g 0, 8, .inl ca))] sz) (zQi D [] (fun (r : Int32) (_ : Unit) => r = f_means co ca hc x) (fun _ => []) sz) 0 0 (va_A [] sz) := by
  refine z_met (y := yX5_meansOf) (cc := cX5_meansOf) (nL := 2) (rm := { frames := 1, cells := 0, slots := 0, locals := 21 }) (D := D) (tys := gT g) (wr := [(q0, .inr (7, [.ref q1, .ref q2, .ref q3, .ref q4, .ref q5, .ref q6, .int (nI mc), .int hc, .int ne, .int lo])), (q2, .inl (g 0, 8, .inl co)), (q3, .inl (g 0, 8, .inl ca))]) (P0 := zNo) (As := [.ref q0, .int (nI x)]) (ww := []) (Qc := zQi D [] (fun (r : Int32) (_ : Unit) => r = f_means co ca hc x) (fun _ => [])) (ret := (some .int)) (by decide) rfl (Nat.le_of_ble_eq_true rfl) ?_ sz
  intro p e s m args below meth c A Q hA hQ F E hr hlk hin
  show zW p l e { frames := 1, cells := 0, slots := 0, locals := 21 } s m args below meth c 2 D A Q 0 0 [] [(0, .ref q0), (1, .int (nI x))] [] 0
  refine z_aload_n F 0 dX5_meansOf_0 rfl rfl ?_
  refine z_get (C := RX5) (T := TX5) (N := 10) F (fun w h => List.mem_cons_of_mem _ (List.mem_append_left _ (List.mem_append_right _ (h)))) 0 rfl rfl 1 (by decide) (List.mem_cons_of_mem _ (List.mem_append_left _ (List.mem_append_left _ (List.mem_of_getElem? (i := 0) rfl)))) rfl rfl dX5_meansOf_1 ?_
  refine z_iload_n F 1 dX5_meansOf_4 rfl rfl ?_
  refine z_ialdN (j := x) F 1 0 rfl rfl (by omega) (by decide) dX5_meansOf_5 ?_
  refine z_aload_n F 0 dX5_meansOf_6 rfl rfl ?_
  refine z_iload_n F 1 dX5_meansOf_7 rfl rfl ?_
  refine z_calli0 F (z_runV (st := [.int (co x)]) F zNo_ok trivial (fun sz => c_X5_coverOf l D g q0 q1 q2 q3 q4 q5 q6 ca mc hc ne lo x (by omega) sz) (cwV 1 F.1.2.2.2.2 gX5_meansOf_X5_coverOf rfl rfl rfl (by decide +kernel) ⟨Nat.le_of_ble_eq_true rfl, Nat.le_of_ble_eq_true rfl⟩) 0 rfl rfl rfl [] [0, 2] rfl rfl (by decide) rfl rfl (Nat.le_of_ble_eq_true rfl) dX5_meansOf_8 ⟨Nat.le_of_ble_eq_true rfl, Nat.le_of_ble_eq_true rfl⟩) (fun r2 _ hw1 => ?_)
  subst hw1
  refine z_iadd F dX5_meansOf_11 ?_
  exact z_iret F hA hQ hlk hr () (rfl) (rfl) dX5_meansOf_12
set_option maxHeartbeats 4000000 in
set_option maxRecDepth 100000 in
theorem c_X5_lossOf (l : Launch) (D : va_G) (g : Nat → ClassId) (q0 : Nat) (q1 : Nat) (q2 : Nat) (q3 : Nat) (q4 : Nat) (q5 : Nat) (q6 : Nat) (am : Nat → Int32) (co : Nat → Int32) (ca : Nat → Int32) (mc : Nat) (hc : Int32) (ne : Int32) (lo : Int32) (x : Nat) (hx : x < 8) (sz : Nat) : Met l yX5_lossOf wsX5_lossOf { frames := 2, cells := 0, slots := 0, locals := 45 } (zPc D (gT g) zNo [.ref q0, .int (nI x)] [] [(q0, .inr (7, [.ref q1, .ref q2, .ref q3, .ref q4, .ref q5, .ref q6, .int (nI mc), .int hc, .int ne, .int lo])), (q1, .inl (g 0, 64, .inl am)), (q2, .inl (g 0, 8, .inl co)), (q3, .inl (g 0, 8, .inl ca))] sz) (zQi D [] (fun (r : Int32) (_ : Unit) => r = f_loss am co ca hc x) (fun _ => []) sz) 0 0 (va_A [] sz) := by
  refine z_met (y := yX5_lossOf) (cc := cX5_lossOf) (nL := 2) (rm := { frames := 2, cells := 0, slots := 0, locals := 45 }) (D := D) (tys := gT g) (wr := [(q0, .inr (7, [.ref q1, .ref q2, .ref q3, .ref q4, .ref q5, .ref q6, .int (nI mc), .int hc, .int ne, .int lo])), (q1, .inl (g 0, 64, .inl am)), (q2, .inl (g 0, 8, .inl co)), (q3, .inl (g 0, 8, .inl ca))]) (P0 := zNo) (As := [.ref q0, .int (nI x)]) (ww := []) (Qc := zQi D [] (fun (r : Int32) (_ : Unit) => r = f_loss am co ca hc x) (fun _ => [])) (ret := (some .int)) (by decide) rfl (Nat.le_of_ble_eq_true rfl) ?_ sz
  intro p e s m args below meth c A Q hA hQ F E hr hlk hin
  show zW p l e { frames := 2, cells := 0, slots := 0, locals := 45 } s m args below meth c 2 D A Q 0 0 [] [(0, .ref q0), (1, .int (nI x))] [] 0
  refine z_aload_n F 0 dX5_lossOf_0 rfl rfl ?_
  refine z_iload_n F 1 dX5_lossOf_1 rfl rfl ?_
  refine z_calli0 F (z_runV (st := []) F zNo_ok trivial (fun sz => c_X5_debitOf l D g q0 q1 q2 q3 q4 q5 q6 am mc hc ne lo x (by omega) sz) (cwV 1 F.1.2.2.2.2 gX5_lossOf_X5_debitOf rfl rfl rfl (by decide +kernel) ⟨Nat.le_of_ble_eq_true rfl, Nat.le_of_ble_eq_true rfl⟩) 0 rfl rfl rfl [] [0, 1] rfl rfl (by decide) rfl rfl (Nat.le_of_ble_eq_true rfl) dX5_lossOf_2 ⟨Nat.le_of_ble_eq_true rfl, Nat.le_of_ble_eq_true rfl⟩) (fun r2 _ hw1 => ?_)
  subst hw1
  refine z_aload_n F 0 dX5_lossOf_5 rfl rfl ?_
  refine z_iload_n F 1 dX5_lossOf_6 rfl rfl ?_
  refine z_calli0 F (z_runV (st := [.int (f_debit am x)]) F zNo_ok trivial (fun sz => c_X5_meansOf l D g q0 q1 q2 q3 q4 q5 q6 co ca mc hc ne lo x (by omega) sz) (cwV 1 F.1.2.2.2.2 gX5_lossOf_X5_meansOf rfl rfl rfl (by decide +kernel) ⟨Nat.le_of_ble_eq_true rfl, Nat.le_of_ble_eq_true rfl⟩) 0 rfl rfl rfl [] [0, 2, 3] rfl rfl (by decide) rfl rfl (Nat.le_of_ble_eq_true rfl) dX5_lossOf_7 ⟨Nat.le_of_ble_eq_true rfl, Nat.le_of_ble_eq_true rfl⟩) (fun r4 _ hw3 => ?_)
  subst hw3
  refine z_isub F dX5_lossOf_10 ?_
  exact z_iret F hA hQ hlk hr () (rfl) (rfl) dX5_lossOf_11
set_option maxHeartbeats 4000000 in
set_option maxRecDepth 100000 in
theorem c_X5_countDebts (l : Launch) (D : va_G) (g : Nat → ClassId) (q0 : Nat) (q1 : Nat) (q2 : Nat) (q3 : Nat) (q4 : Nat) (q5 : Nat) (q6 : Nat) (am : Nat → Int32) (mc : Nat) (hc : Int32) (ne : Int32) (lo : Int32) (sz : Nat) : Met l yX5_countDebts wsX5_countDebts { frames := 0, cells := 0, slots := 0, locals := 0 } (zPc D (gT g) zNo [.ref q0] [] [(q0, .inr (7, [.ref q1, .ref q2, .ref q3, .ref q4, .ref q5, .ref q6, .int (nI mc), .int hc, .int ne, .int lo])), (q1, .inl (g 0, 64, .inl am))] sz) (zQi D [] (fun (r : Int32) (_ : Unit) => r = f_cnt am) (fun _ => []) sz) 0 0 (va_A [] sz) := by
  refine z_met (y := yX5_countDebts) (cc := cX5_countDebts) (nL := 3) (rm := { frames := 0, cells := 0, slots := 0, locals := 0 }) (D := D) (tys := gT g) (wr := [(q0, .inr (7, [.ref q1, .ref q2, .ref q3, .ref q4, .ref q5, .ref q6, .int (nI mc), .int hc, .int ne, .int lo])), (q1, .inl (g 0, 64, .inl am))]) (P0 := zNo) (As := [.ref q0]) (ww := []) (Qc := zQi D [] (fun (r : Int32) (_ : Unit) => r = f_cnt am) (fun _ => [])) (ret := (some .int)) (by decide) rfl (Nat.le_of_ble_eq_true rfl) ?_ sz
  intro p e s m args below meth c A Q hA hQ F E hr hlk hin
  have L4 : ∀ (N4_ : Nat) (i : Nat) (v : Int32) (hN4_ : 64 - i < N4_) (hi : i ≤ 64) (hv : v = f_cntN am i), zW p l e { frames := 0, cells := 0, slots := 0, locals := 0 } s m args below meth c 3 D A Q 0 0 [] [(0, .ref q0), (1, .int v), (2, .int (nI i))] [] 4 := by
    intro N4_
    induction N4_ with
    | zero =>
      intro i v hN4_
      exact absurd hN4_ (Nat.not_lt_zero _)
    | succ N4_ ih4 =>
      intro i v hN4_ hi hv
      refine z_iload_n F 2 dX5_countDebts_4 rfl rfl ?_
      refine z_aload_n F 0 dX5_countDebts_5 rfl rfl ?_
      refine z_get (C := RX5) (T := TX5) (N := 10) F (fun w h => List.mem_cons_of_mem _ (List.mem_append_left _ (List.mem_append_right _ (h)))) 0 rfl rfl 0 (by decide) (List.mem_cons_of_mem _ (List.mem_append_left _ (List.mem_append_left _ (List.mem_of_getElem? (i := 0) rfl)))) rfl rfl dX5_countDebts_6 ?_
      refine z_alen (v := nI 64) F 1 0 rfl rfl rfl dX5_countDebts_9 ?_
      refine z_icmp_ge (tgt := 31) F dX5_countDebts_10 (by decide) (fun c1 => ?_) (fun c1 => ?_)
      · have hi8 : i = 64 := by have := z_ge (by omega) (by decide) (show nI 64 ≤ nI i from c1); omega
        refine z_iload_n F 1 dX5_countDebts_31 rfl rfl ?_
        exact z_iret F hA hQ hlk hr () (by rw [hv, hi8]; rfl) (rfl) dX5_countDebts_32
      · have hi8 : i < 64 := z_lt (by omega) (by decide) c1
        refine z_aload_n F 0 dX5_countDebts_13 rfl rfl ?_
        refine z_get (C := RX5) (T := TX5) (N := 10) F (fun w h => List.mem_cons_of_mem _ (List.mem_append_left _ (List.mem_append_right _ (h)))) 0 rfl rfl 0 (by decide) (List.mem_cons_of_mem _ (List.mem_append_left _ (List.mem_append_left _ (List.mem_of_getElem? (i := 0) rfl)))) rfl rfl dX5_countDebts_14 ?_
        refine z_iload_n F 2 dX5_countDebts_17 rfl rfl ?_
        refine z_ialdN (j := i) F 1 0 rfl rfl (by omega) (by decide) dX5_countDebts_18 ?_
        refine z_if_le (tgt := 25) F dX5_countDebts_19 (by decide) (fun c2 => ?_) (fun c2 => ?_)
        · refine z_iinc (v := nI (i + 1)) (lv' := [(2, .int (nI (i + 1))), (0, .ref q0), (1, .int v)]) F dX5_countDebts_25 2 rfl (nI_1 i) (by decide) rfl ?_
          refine z_goto (tgt := 4) F dX5_countDebts_28 (by decide) ?_
          refine z_loc (lv' := [(0, .ref q0), (1, .int v), (2, .int (nI (i + 1)))]) [1, 2, 0] rfl ?_
          exact ih4 (i + 1) v (by omega) (by omega) (by first | rfl | (subst hv; simp only [f_cntN, if_pos c2]))
        · refine z_iinc (v := v + 1) (lv' := [(1, .int (v + 1)), (0, .ref q0), (2, .int (nI i))]) F dX5_countDebts_22 1 rfl (rfl) (by decide) rfl ?_
          refine z_iinc (v := nI (i + 1)) (lv' := [(2, .int (nI (i + 1))), (1, .int (v + 1)), (0, .ref q0)]) F dX5_countDebts_25 2 rfl (nI_1 i) (by decide) rfl ?_
          refine z_goto (tgt := 4) F dX5_countDebts_28 (by decide) ?_
          refine z_loc (lv' := [(0, .ref q0), (1, .int (v + 1)), (2, .int (nI (i + 1)))]) [2, 1, 0] rfl ?_
          exact ih4 (i + 1) (v + 1) (by omega) (by omega) (by first | rfl | (subst hv; simp only [f_cntN, if_neg c2]))
  show zW p l e { frames := 0, cells := 0, slots := 0, locals := 0 } s m args below meth c 3 D A Q 0 0 [] [(0, .ref q0)] [] 0
  refine z_iconst (v := 0) F dX5_countDebts_0 (by decide) ?_
  refine z_istore_n (lv' := [(1, .int 0), (0, .ref q0)]) F dX5_countDebts_1 rfl (by decide) rfl ?_
  refine z_iconst (v := 0) F dX5_countDebts_2 (by decide) ?_
  refine z_istore_n (lv' := [(2, .int 0), (1, .int 0), (0, .ref q0)]) F dX5_countDebts_3 rfl (by decide) rfl ?_
  refine z_loc (lv' := [(0, .ref q0), (1, .int 0), (2, .int (nI 0))]) [2, 1, 0] rfl ?_
  exact L4 _ 0 0 (Nat.lt_succ_self _) (by omega) (by first | rfl | (subst hv; simp only [f_cntN]))
set_option maxHeartbeats 4000000 in
set_option maxRecDepth 100000 in
theorem c_X5_placeOfLargestDebt (l : Launch) (D : va_G) (g : Nat → ClassId) (q0 : Nat) (q1 : Nat) (q2 : Nat) (q3 : Nat) (q4 : Nat) (q5 : Nat) (q6 : Nat) (am : Nat → Int32) (mc : Nat) (hc : Int32) (ne : Int32) (lo : Int32) (sz : Nat) : Met l yX5_placeOfLargestDebt wsX5_placeOfLargestDebt { frames := 0, cells := 0, slots := 0, locals := 0 } (zPc D (gT g) zNo [.ref q0] [] [(q0, .inr (7, [.ref q1, .ref q2, .ref q3, .ref q4, .ref q5, .ref q6, .int (nI mc), .int hc, .int ne, .int lo])), (q1, .inl (g 0, 64, .inl am))] sz) (zQi D [] (fun (r : Int32) (_ : Unit) => r = f_place am) (fun _ => []) sz) 0 0 (va_A [] sz) := by
  refine z_met (y := yX5_placeOfLargestDebt) (cc := cX5_placeOfLargestDebt) (nL := 4) (rm := { frames := 0, cells := 0, slots := 0, locals := 0 }) (D := D) (tys := gT g) (wr := [(q0, .inr (7, [.ref q1, .ref q2, .ref q3, .ref q4, .ref q5, .ref q6, .int (nI mc), .int hc, .int ne, .int lo])), (q1, .inl (g 0, 64, .inl am))]) (P0 := zNo) (As := [.ref q0]) (ww := []) (Qc := zQi D [] (fun (r : Int32) (_ : Unit) => r = f_place am) (fun _ => [])) (ret := (some .int)) (by decide) rfl (Nat.le_of_ble_eq_true rfl) ?_ sz
  intro p e s m args below meth c A Q hA hQ F E hr hlk hin
  have L6 : ∀ (N6_ : Nat) (i : Nat) (v : Int32) (w : Int32) (hN6_ : 64 - i < N6_) (hi : i ≤ 64) (hv : (v, w) = f_placeN am i), zW p l e { frames := 0, cells := 0, slots := 0, locals := 0 } s m args below meth c 4 D A Q 0 0 [] [(0, .ref q0), (1, .int v), (2, .int w), (3, .int (nI i))] [] 6 := by
    intro N6_
    induction N6_ with
    | zero =>
      intro i v w hN6_
      exact absurd hN6_ (Nat.not_lt_zero _)
    | succ N6_ ih6 =>
      intro i v w hN6_ hi hv
      refine z_iload_n F 3 dX5_placeOfLargestDebt_6 rfl rfl ?_
      refine z_aload_n F 0 dX5_placeOfLargestDebt_7 rfl rfl ?_
      refine z_get (C := RX5) (T := TX5) (N := 10) F (fun w h => List.mem_cons_of_mem _ (List.mem_append_left _ (List.mem_append_right _ (h)))) 0 rfl rfl 0 (by decide) (List.mem_cons_of_mem _ (List.mem_append_left _ (List.mem_append_left _ (List.mem_of_getElem? (i := 0) rfl)))) rfl rfl dX5_placeOfLargestDebt_8 ?_
      refine z_alen (v := nI 64) F 1 0 rfl rfl rfl dX5_placeOfLargestDebt_11 ?_
      refine z_icmp_ge (tgt := 40) F dX5_placeOfLargestDebt_12 (by decide) (fun c1 => ?_) (fun c1 => ?_)
      · have hi8 : i = 64 := by have := z_ge (by omega) (by decide) (show nI 64 ≤ nI i from c1); omega
        refine z_iload_n F 2 dX5_placeOfLargestDebt_40 rfl rfl ?_
        exact z_iret F hA hQ hlk hr () (by rw [hi8] at hv; exact congrArg Prod.snd hv) (rfl) dX5_placeOfLargestDebt_41
      · have hi8 : i < 64 := z_lt (by omega) (by decide) c1
        refine z_aload_n F 0 dX5_placeOfLargestDebt_15 rfl rfl ?_
        refine z_get (C := RX5) (T := TX5) (N := 10) F (fun w h => List.mem_cons_of_mem _ (List.mem_append_left _ (List.mem_append_right _ (h)))) 0 rfl rfl 0 (by decide) (List.mem_cons_of_mem _ (List.mem_append_left _ (List.mem_append_left _ (List.mem_of_getElem? (i := 0) rfl)))) rfl rfl dX5_placeOfLargestDebt_16 ?_
        refine z_iload_n F 3 dX5_placeOfLargestDebt_19 rfl rfl ?_
        refine z_ialdN (j := i) F 1 0 rfl rfl (by omega) (by decide) dX5_placeOfLargestDebt_20 ?_
        refine z_iload_n F 1 dX5_placeOfLargestDebt_21 rfl rfl ?_
        refine z_icmp_le (tgt := 34) F dX5_placeOfLargestDebt_22 (by decide) (fun c2 => ?_) (fun c2 => ?_)
        · refine z_iinc (v := nI (i + 1)) (lv' := [(3, .int (nI (i + 1))), (0, .ref q0), (1, .int v), (2, .int w)]) F dX5_placeOfLargestDebt_34 3 rfl (nI_1 i) (by decide) rfl ?_
          refine z_goto (tgt := 6) F dX5_placeOfLargestDebt_37 (by decide) ?_
          refine z_loc (lv' := [(0, .ref q0), (1, .int v), (2, .int w), (3, .int (nI (i + 1)))]) [1, 2, 3, 0] rfl ?_
          exact ih6 (i + 1) v w (by omega) (by omega) (by first | rfl | (simp only [f_placeN, ← hv, if_pos c2]))
        · refine z_aload_n F 0 dX5_placeOfLargestDebt_25 rfl rfl ?_
          refine z_get (C := RX5) (T := TX5) (N := 10) F (fun w h => List.mem_cons_of_mem _ (List.mem_append_left _ (List.mem_append_right _ (h)))) 0 rfl rfl 0 (by decide) (List.mem_cons_of_mem _ (List.mem_append_left _ (List.mem_append_left _ (List.mem_of_getElem? (i := 0) rfl)))) rfl rfl dX5_placeOfLargestDebt_26 ?_
          refine z_iload_n F 3 dX5_placeOfLargestDebt_29 rfl rfl ?_
          refine z_ialdN (j := i) F 1 0 rfl rfl (by omega) (by decide) dX5_placeOfLargestDebt_30 ?_
          refine z_istore_n (lv' := [(1, .int (am i)), (0, .ref q0), (2, .int w), (3, .int (nI i))]) F dX5_placeOfLargestDebt_31 rfl (by decide) rfl ?_
          refine z_iload_n F 3 dX5_placeOfLargestDebt_32 rfl rfl ?_
          refine z_istore_n (lv' := [(2, .int (nI i)), (1, .int (am i)), (0, .ref q0), (3, .int (nI i))]) F dX5_placeOfLargestDebt_33 rfl (by decide) rfl ?_
          refine z_iinc (v := nI (i + 1)) (lv' := [(3, .int (nI (i + 1))), (2, .int (nI i)), (1, .int (am i)), (0, .ref q0)]) F dX5_placeOfLargestDebt_34 3 rfl (nI_1 i) (by decide) rfl ?_
          refine z_goto (tgt := 6) F dX5_placeOfLargestDebt_37 (by decide) ?_
          refine z_loc (lv' := [(0, .ref q0), (1, .int (am i)), (2, .int (nI i)), (3, .int (nI (i + 1)))]) [3, 2, 1, 0] rfl ?_
          exact ih6 (i + 1) (am i) (nI i) (by omega) (by omega) (by first | rfl | (simp only [f_placeN, ← hv, if_neg c2]))
  show zW p l e { frames := 0, cells := 0, slots := 0, locals := 0 } s m args below meth c 4 D A Q 0 0 [] [(0, .ref q0)] [] 0
  refine z_iconst (v := 0) F dX5_placeOfLargestDebt_0 (by decide) ?_
  refine z_istore_n (lv' := [(1, .int 0), (0, .ref q0)]) F dX5_placeOfLargestDebt_1 rfl (by decide) rfl ?_
  refine z_iconst (v := (-1)) F dX5_placeOfLargestDebt_2 (by decide) ?_
  refine z_istore_n (lv' := [(2, .int (-1)), (1, .int 0), (0, .ref q0)]) F dX5_placeOfLargestDebt_3 rfl (by decide) rfl ?_
  refine z_iconst (v := 0) F dX5_placeOfLargestDebt_4 (by decide) ?_
  refine z_istore_n (lv' := [(3, .int 0), (2, .int (-1)), (1, .int 0), (0, .ref q0)]) F dX5_placeOfLargestDebt_5 rfl (by decide) rfl ?_
  refine z_loc (lv' := [(0, .ref q0), (1, .int 0), (2, .int (-1)), (3, .int (nI 0))]) [3, 2, 1, 0] rfl ?_
  exact L6 _ 0 0 (-1) (Nat.lt_succ_self _) (by omega) (by first | rfl | (simp only [f_placeN, ← hv]))
set_option maxHeartbeats 4000000 in
set_option maxRecDepth 100000 in
theorem c_X5_sumOfAbsolutePositions (l : Launch) (D : va_G) (g : Nat → ClassId) (q0 : Nat) (q1 : Nat) (q2 : Nat) (q3 : Nat) (q4 : Nat) (q5 : Nat) (q6 : Nat) (am : Nat → Int32) (mc : Nat) (hc : Int32) (ne : Int32) (lo : Int32) (hm : mc ≤ 8) (sz : Nat) : Met l yX5_sumOfAbsolutePositions wsX5_sumOfAbsolutePositions { frames := 3, cells := 0, slots := 0, locals := 66 } (zPc D (gT g) zNo [.ref q0] [] [(q0, .inr (7, [.ref q1, .ref q2, .ref q3, .ref q4, .ref q5, .ref q6, .int (nI mc), .int hc, .int ne, .int lo])), (q1, .inl (g 0, 64, .inl am))] sz) (zQi D [] (fun (r : Int32) (_ : Unit) => r = f_absN am mc) (fun _ => []) sz) 0 0 (va_A [] sz) := by
  refine z_met (y := yX5_sumOfAbsolutePositions) (cc := cX5_sumOfAbsolutePositions) (nL := 3) (rm := { frames := 3, cells := 0, slots := 0, locals := 66 }) (D := D) (tys := gT g) (wr := [(q0, .inr (7, [.ref q1, .ref q2, .ref q3, .ref q4, .ref q5, .ref q6, .int (nI mc), .int hc, .int ne, .int lo])), (q1, .inl (g 0, 64, .inl am))]) (P0 := zNo) (As := [.ref q0]) (ww := []) (Qc := zQi D [] (fun (r : Int32) (_ : Unit) => r = f_absN am mc) (fun _ => [])) (ret := (some .int)) (by decide) rfl (Nat.le_of_ble_eq_true rfl) ?_ sz
  intro p e s m args below meth c A Q hA hQ F E hr hlk hin
  have L4 : ∀ (N4_ : Nat) (i : Nat) (v : Int32) (hN4_ : mc - i < N4_) (hi : i ≤ mc) (hv : v = f_absN am i), zW p l e { frames := 3, cells := 0, slots := 0, locals := 66 } s m args below meth c 3 D A Q 0 0 [] [(0, .ref q0), (1, .int v), (2, .int (nI i))] [] 4 := by
    intro N4_
    induction N4_ with
    | zero =>
      intro i v hN4_
      exact absurd hN4_ (Nat.not_lt_zero _)
    | succ N4_ ih4 =>
      intro i v hN4_ hi hv
      refine z_iload_n F 2 dX5_sumOfAbsolutePositions_4 rfl rfl ?_
      refine z_aload_n F 0 dX5_sumOfAbsolutePositions_5 rfl rfl ?_
      refine z_get (C := RX5) (T := TX5) (N := 10) F (fun w h => List.mem_cons_of_mem _ (List.mem_append_left _ (List.mem_append_right _ (h)))) 0 rfl rfl 6 (by decide) (List.mem_cons_of_mem _ (List.mem_append_left _ (List.mem_append_left _ (List.mem_of_getElem? (i := 0) rfl)))) rfl rfl dX5_sumOfAbsolutePositions_6 ?_
      refine z_icmp_ge (tgt := 29) F dX5_sumOfAbsolutePositions_9 (by decide) (fun c1 => ?_) (fun c1 => ?_)
      · have hi8 : i = mc := by have := z_ge (by omega) (by omega) (show nI mc ≤ nI i from c1); omega
        refine z_iload_n F 1 dX5_sumOfAbsolutePositions_29 rfl rfl ?_
        exact z_iret F hA hQ hlk hr () (by rw [hv, hi8]) (rfl) dX5_sumOfAbsolutePositions_30
      · have hi8 : i < mc := z_lt (by omega) (by omega) c1
        refine z_iload_n F 1 dX5_sumOfAbsolutePositions_12 rfl rfl ?_
        refine z_aload_n F 0 dX5_sumOfAbsolutePositions_13 rfl rfl ?_
        refine z_iload_n F 2 dX5_sumOfAbsolutePositions_14 rfl rfl ?_
        refine z_calli0 F (z_runV (st := [.int v]) F zNo_ok trivial (fun sz => c_X5_positionOf l D g q0 q1 q2 q3 q4 q5 q6 am mc hc ne lo i (by omega) sz) (cwV 1 F.1.2.2.2.2 gX5_sumOfAbsolutePositions_X5_positionOf rfl rfl rfl (by decide +kernel) ⟨Nat.le_of_ble_eq_true rfl, Nat.le_of_ble_eq_true rfl⟩) 0 rfl rfl rfl [] [0, 1] rfl rfl (by decide) rfl rfl (Nat.le_of_ble_eq_true rfl) dX5_sumOfAbsolutePositions_15 ⟨Nat.le_of_ble_eq_true rfl, Nat.le_of_ble_eq_true rfl⟩) (fun r3 _ hw2 => ?_)
        subst hw2
        refine z_mabs F (List.mem_cons_of_mem _ (List.mem_append_left _ (List.mem_append_left _ (List.mem_of_getElem? (i := 1) rfl)))) (List.mem_cons_of_mem _ (List.mem_append_left _ (List.mem_append_left _ (List.mem_of_getElem? (i := 2) rfl)))) (List.mem_cons_of_mem _ (List.mem_append_left _ (List.mem_append_left _ (List.mem_of_getElem? (i := 3) rfl)))) (List.mem_cons_of_mem _ (List.mem_append_left _ (List.mem_append_left _ (List.mem_of_getElem? (i := 4) rfl)))) (Nat.le_of_ble_eq_true rfl) (Nat.le_of_ble_eq_true rfl) (Nat.le_of_ble_eq_true rfl) (Nat.le_of_ble_eq_true rfl) dX5_sumOfAbsolutePositions_18 ?_
        refine z_iadd F dX5_sumOfAbsolutePositions_21 ?_
        refine z_istore_n (lv' := [(1, .int (v + (z_abs (f_pos am i)))), (0, .ref q0), (2, .int (nI i))]) F dX5_sumOfAbsolutePositions_22 rfl (by decide) rfl ?_
        refine z_iinc (v := nI (i + 1)) (lv' := [(2, .int (nI (i + 1))), (1, .int (v + (z_abs (f_pos am i)))), (0, .ref q0)]) F dX5_sumOfAbsolutePositions_23 2 rfl (nI_1 i) (by decide) rfl ?_
        refine z_goto (tgt := 4) F dX5_sumOfAbsolutePositions_26 (by decide) ?_
        refine z_loc (lv' := [(0, .ref q0), (1, .int (v + (z_abs (f_pos am i)))), (2, .int (nI (i + 1)))]) [2, 1, 0] rfl ?_
        exact ih4 (i + 1) (v + (z_abs (f_pos am i))) (by omega) (by omega) (by first | rfl | (rw [hv]; rfl))
  show zW p l e { frames := 3, cells := 0, slots := 0, locals := 66 } s m args below meth c 3 D A Q 0 0 [] [(0, .ref q0)] [] 0
  refine z_iconst (v := 0) F dX5_sumOfAbsolutePositions_0 (by decide) ?_
  refine z_istore_n (lv' := [(1, .int 0), (0, .ref q0)]) F dX5_sumOfAbsolutePositions_1 rfl (by decide) rfl ?_
  refine z_iconst (v := 0) F dX5_sumOfAbsolutePositions_2 (by decide) ?_
  refine z_istore_n (lv' := [(2, .int 0), (1, .int 0), (0, .ref q0)]) F dX5_sumOfAbsolutePositions_3 rfl (by decide) rfl ?_
  refine z_loc (lv' := [(0, .ref q0), (1, .int 0), (2, .int (nI 0))]) [2, 1, 0] rfl ?_
  exact L4 _ 0 0 (Nat.lt_succ_self _) (by omega) (by first | rfl | (rw [hv]; rfl))
set_option maxHeartbeats 4000000 in
set_option maxRecDepth 100000 in
theorem c_J6_compare_7cf53 (l : Launch) (D : va_G) (g : Nat → ClassId) (v : Int32) (w : Int32) (sz : Nat) : Met l yJ6_compare_7cf53 wsJ6_compare_7cf53 { frames := 0, cells := 0, slots := 0, locals := 0 } (zPc D (gT g) zNo [.int v, .int w] [] [] sz) (zQi D [] (fun (r : Int32) (_ : Unit) => r = f_cmp v w) (fun _ => []) sz) 0 0 (va_A [] sz) := by
  refine z_met (y := yJ6_compare_7cf53) (cc := cJ6_compare_7cf53) (nL := 2) (rm := { frames := 0, cells := 0, slots := 0, locals := 0 }) (D := D) (tys := gT g) (wr := []) (P0 := zNo) (As := [.int v, .int w]) (ww := []) (Qc := zQi D [] (fun (r : Int32) (_ : Unit) => r = f_cmp v w) (fun _ => [])) (ret := (some .int)) (by decide) rfl (Nat.le_of_ble_eq_true rfl) ?_ sz
  intro p e s m args below meth c A Q hA hQ F E hr hlk hin
  show zW p l e { frames := 0, cells := 0, slots := 0, locals := 0 } s m args below meth c 2 D A Q 0 0 [] [(0, .int v), (1, .int w)] [] 0
  refine z_iload_n F 0 dJ6_compare_7cf53_0 rfl rfl ?_
  refine z_iload_n F 1 dJ6_compare_7cf53_1 rfl rfl ?_
  refine z_icmp_ge (tgt := 9) F dJ6_compare_7cf53_2 (by decide) (fun c1 => ?_) (fun c1 => ?_)
  · refine z_iload_n F 0 dJ6_compare_7cf53_9 rfl rfl ?_
    refine z_iload_n F 1 dJ6_compare_7cf53_10 rfl rfl ?_
    refine z_icmp_ne (tgt := 18) F dJ6_compare_7cf53_11 (by decide) (fun c2 => ?_) (fun c2 => ?_)
    · refine z_iconst (v := 1) F dJ6_compare_7cf53_18 (by decide) ?_
      exact z_iret F hA hQ hlk hr () (by simp only [f_cmp, if_pos c1, if_neg c2]) (rfl) dJ6_compare_7cf53_19
    · refine z_iconst (v := 0) F dJ6_compare_7cf53_14 (by decide) ?_
      refine z_goto (tgt := 19) F dJ6_compare_7cf53_15 (by decide) ?_
      exact z_iret F hA hQ hlk hr () (by simp only [f_cmp, if_pos c1, if_pos c2]) (rfl) dJ6_compare_7cf53_19
  · refine z_iconst (v := (-1)) F dJ6_compare_7cf53_5 (by decide) ?_
    refine z_goto (tgt := 19) F dJ6_compare_7cf53_6 (by decide) ?_
    exact z_iret F hA hQ hlk hr () (by simp only [f_cmp, if_neg c1]) (rfl) dJ6_compare_7cf53_19
set_option maxHeartbeats 4000000 in
set_option maxRecDepth 100000 in
theorem c_X5_isAhead (l : Launch) (D : va_G) (g : Nat → ClassId) (q0 : Nat) (q1 : Nat) (q2 : Nat) (q3 : Nat) (q4 : Nat) (q5 : Nat) (q6 : Nat) (am : Nat → Int32) (co : Nat → Int32) (mc : Nat) (hc : Int32) (ne : Int32) (lo : Int32) (x : Nat) (y : Nat) (hx : x < 8) (hy : y < 8) (sz : Nat) : Met l yX5_isAhead wsX5_isAhead { frames := 3, cells := 0, slots := 0, locals := 66 } (zPc D (gT g) zNo [.ref q0, .int (nI x), .int (nI y)] [] [(q0, .inr (7, [.ref q1, .ref q2, .ref q3, .ref q4, .ref q5, .ref q6, .int (nI mc), .int hc, .int ne, .int lo])), (q1, .inl (g 0, 64, .inl am)), (q2, .inl (g 0, 8, .inl co))] sz) (zQi D [] (fun (r : Int32) (_ : Unit) => r = f_ahead am co x y) (fun _ => []) sz) 0 0 (va_A [] sz) := by
  refine z_met (y := yX5_isAhead) (cc := cX5_isAhead) (nL := 4) (rm := { frames := 3, cells := 0, slots := 0, locals := 66 }) (D := D) (tys := gT g) (wr := [(q0, .inr (7, [.ref q1, .ref q2, .ref q3, .ref q4, .ref q5, .ref q6, .int (nI mc), .int hc, .int ne, .int lo])), (q1, .inl (g 0, 64, .inl am)), (q2, .inl (g 0, 8, .inl co))]) (P0 := zNo) (As := [.ref q0, .int (nI x), .int (nI y)]) (ww := []) (Qc := zQi D [] (fun (r : Int32) (_ : Unit) => r = f_ahead am co x y) (fun _ => [])) (ret := (some .boolean)) (by decide) rfl (Nat.le_of_ble_eq_true rfl) ?_ sz
  intro p e s m args below meth c A Q hA hQ F E hr hlk hin
  show zW p l e { frames := 3, cells := 0, slots := 0, locals := 66 } s m args below meth c 4 D A Q 0 0 [] [(0, .ref q0), (1, .int (nI x)), (2, .int (nI y))] [] 0
  refine z_aload_n F 0 dX5_isAhead_0 rfl rfl ?_
  refine z_iload_n F 1 dX5_isAhead_1 rfl rfl ?_
  refine z_calli0 F (z_runV (st := []) F zNo_ok trivial (fun sz => c_X5_positionOf l D g q0 q1 q2 q3 q4 q5 q6 am mc hc ne lo x (by omega) sz) (cwV 1 F.1.2.2.2.2 gX5_isAhead_X5_positionOf rfl rfl rfl (by decide +kernel) ⟨Nat.le_of_ble_eq_true rfl, Nat.le_of_ble_eq_true rfl⟩) 0 rfl rfl rfl [] [0, 1] rfl rfl (by decide) rfl rfl (Nat.le_of_ble_eq_true rfl) dX5_isAhead_2 ⟨Nat.le_of_ble_eq_true rfl, Nat.le_of_ble_eq_true rfl⟩) (fun r2 _ hw1 => ?_)
  subst hw1
  refine z_aload_n F 0 dX5_isAhead_5 rfl rfl ?_
  refine z_iload_n F 2 dX5_isAhead_6 rfl rfl ?_
  refine z_calli0 F (z_runV (st := [.int (f_pos am x)]) F zNo_ok trivial (fun sz => c_X5_positionOf l D g q0 q1 q2 q3 q4 q5 q6 am mc hc ne lo y (by omega) sz) (cwV 1 F.1.2.2.2.2 gX5_isAhead_X5_positionOf rfl rfl rfl (by decide +kernel) ⟨Nat.le_of_ble_eq_true rfl, Nat.le_of_ble_eq_true rfl⟩) 0 rfl rfl rfl [] [0, 1] rfl rfl (by decide) rfl rfl (Nat.le_of_ble_eq_true rfl) dX5_isAhead_7 ⟨Nat.le_of_ble_eq_true rfl, Nat.le_of_ble_eq_true rfl⟩) (fun r4 _ hw3 => ?_)
  subst hw3
  refine z_calli0 F (z_runS (st := []) F zNo_ok trivial (fun sz => c_J6_compare_7cf53 l D g (f_pos am x) (f_pos am y) sz) (va_cwS 2 F.1.2.2.2.2 gX5_isAhead_J6_compare_7cf53 rfl rfl rfl (by decide +kernel) ⟨Nat.le_of_ble_eq_true rfl, Nat.le_of_ble_eq_true rfl⟩) [] [] rfl rfl (by decide) rfl rfl (Nat.le_of_ble_eq_true rfl) dX5_isAhead_10 ⟨Nat.le_of_ble_eq_true rfl, Nat.le_of_ble_eq_true rfl⟩) (fun r6 _ hw5 => ?_)
  subst hw5
  refine z_istore_n (lv' := [(3, .int (f_cmp (f_pos am x) (f_pos am y))), (0, .ref q0), (1, .int (nI x)), (2, .int (nI y))]) F dX5_isAhead_13 rfl (by decide) rfl ?_
  refine z_iload_n F 0 dX5_isAhead_14 rfl rfl ?_
  refine z_if_eq (tgt := 28) F dX5_isAhead_15 (by decide) (fun c7 => ?_) (fun c7 => ?_)
  · refine z_aload_n F 1 dX5_isAhead_28 rfl rfl ?_
    refine z_get (C := RX5) (T := TX5) (N := 10) F (fun w h => List.mem_cons_of_mem _ (List.mem_append_left _ (List.mem_append_right _ (h)))) 0 rfl rfl 1 (by decide) (List.mem_cons_of_mem _ (List.mem_append_left _ (List.mem_append_left _ (List.mem_of_getElem? (i := 0) rfl)))) rfl rfl dX5_isAhead_29 ?_
    refine z_iload_n F 2 dX5_isAhead_32 rfl rfl ?_
    refine z_ialdN (j := x) F 2 0 rfl rfl (by omega) (by decide) dX5_isAhead_33 ?_
    refine z_aload_n F 1 dX5_isAhead_34 rfl rfl ?_
    refine z_get (C := RX5) (T := TX5) (N := 10) F (fun w h => List.mem_cons_of_mem _ (List.mem_append_left _ (List.mem_append_right _ (h)))) 0 rfl rfl 1 (by decide) (List.mem_cons_of_mem _ (List.mem_append_left _ (List.mem_append_left _ (List.mem_of_getElem? (i := 0) rfl)))) rfl rfl dX5_isAhead_35 ?_
    refine z_iload_n F 3 dX5_isAhead_38 rfl rfl ?_
    refine z_ialdN (j := y) F 2 0 rfl rfl (by omega) (by decide) dX5_isAhead_39 ?_
    refine z_icmp_eq (tgt := 64) F dX5_isAhead_40 (by decide) (fun c8 => ?_) (fun c8 => ?_)
    · refine z_iload_n F 2 dX5_isAhead_64 rfl rfl ?_
      refine z_iload_n F 3 dX5_isAhead_65 rfl rfl ?_
      refine z_icmp_ge (tgt := 73) F dX5_isAhead_66 (by decide) (fun c9 => ?_) (fun c9 => ?_)
      · refine z_iconst (v := 0) F dX5_isAhead_73 (by decide) ?_
        exact z_zret F hA hQ hlk hr (rfl) () (by simp only [f_ahead, if_pos c7, if_pos c8, if_pos c9]) (rfl) dX5_isAhead_74
      · refine z_iconst (v := 1) F dX5_isAhead_69 (by decide) ?_
        refine z_goto (tgt := 74) F dX5_isAhead_70 (by decide) ?_
        exact z_zret F hA hQ hlk hr (rfl) () (by simp only [f_ahead, if_pos c7, if_pos c8, if_neg c9]) (rfl) dX5_isAhead_74
    · refine z_aload_n F 1 dX5_isAhead_43 rfl rfl ?_
      refine z_get (C := RX5) (T := TX5) (N := 10) F (fun w h => List.mem_cons_of_mem _ (List.mem_append_left _ (List.mem_append_right _ (h)))) 0 rfl rfl 1 (by decide) (List.mem_cons_of_mem _ (List.mem_append_left _ (List.mem_append_left _ (List.mem_of_getElem? (i := 0) rfl)))) rfl rfl dX5_isAhead_44 ?_
      refine z_iload_n F 2 dX5_isAhead_47 rfl rfl ?_
      refine z_ialdN (j := x) F 2 0 rfl rfl (by omega) (by decide) dX5_isAhead_48 ?_
      refine z_aload_n F 1 dX5_isAhead_49 rfl rfl ?_
      refine z_get (C := RX5) (T := TX5) (N := 10) F (fun w h => List.mem_cons_of_mem _ (List.mem_append_left _ (List.mem_append_right _ (h)))) 0 rfl rfl 1 (by decide) (List.mem_cons_of_mem _ (List.mem_append_left _ (List.mem_append_left _ (List.mem_of_getElem? (i := 0) rfl)))) rfl rfl dX5_isAhead_50 ?_
      refine z_iload_n F 3 dX5_isAhead_53 rfl rfl ?_
      refine z_ialdN (j := y) F 2 0 rfl rfl (by omega) (by decide) dX5_isAhead_54 ?_
      refine z_icmp_le (tgt := 62) F dX5_isAhead_55 (by decide) (fun c10 => ?_) (fun c10 => ?_)
      · refine z_iconst (v := 0) F dX5_isAhead_62 (by decide) ?_
        exact z_zret F hA hQ hlk hr (rfl) () (by simp only [f_ahead, if_pos c7, if_neg c8, if_pos c10]) (rfl) dX5_isAhead_63
      · refine z_iconst (v := 1) F dX5_isAhead_58 (by decide) ?_
        refine z_goto (tgt := 63) F dX5_isAhead_59 (by decide) ?_
        exact z_zret F hA hQ hlk hr (rfl) () (by simp only [f_ahead, if_pos c7, if_neg c8, if_neg c10]) (rfl) dX5_isAhead_63
  · refine z_iload_n F 0 dX5_isAhead_18 rfl rfl ?_
    refine z_if_le (tgt := 26) F dX5_isAhead_19 (by decide) (fun c11 => ?_) (fun c11 => ?_)
    · refine z_iconst (v := 0) F dX5_isAhead_26 (by decide) ?_
      exact z_zret F hA hQ hlk hr (rfl) () (by simp only [f_ahead, if_neg c7, if_pos c11]) (rfl) dX5_isAhead_27
    · refine z_iconst (v := 1) F dX5_isAhead_22 (by decide) ?_
      refine z_goto (tgt := 27) F dX5_isAhead_23 (by decide) ?_
      exact z_zret F hA hQ hlk hr (rfl) () (by simp only [f_ahead, if_neg c7, if_neg c11]) (rfl) dX5_isAhead_27
set_option maxHeartbeats 4000000 in
set_option maxRecDepth 100000 in
theorem c_X5_countAhead (l : Launch) (D : va_G) (g : Nat → ClassId) (q0 : Nat) (q1 : Nat) (q2 : Nat) (q3 : Nat) (q4 : Nat) (q5 : Nat) (q6 : Nat) (am : Nat → Int32) (co : Nat → Int32) (mc : Nat) (hc : Int32) (ne : Int32) (lo : Int32) (x : Nat) (hx : x < 8) (hm : mc ≤ 8) (sz : Nat) : Met l yX5_countAhead wsX5_countAhead { frames := 4, cells := 0, slots := 0, locals := 89 } (zPc D (gT g) zNo [.ref q0, .int (nI x)] [] [(q0, .inr (7, [.ref q1, .ref q2, .ref q3, .ref q4, .ref q5, .ref q6, .int (nI mc), .int hc, .int ne, .int lo])), (q1, .inl (g 0, 64, .inl am)), (q2, .inl (g 0, 8, .inl co))] sz) (zQi D [] (fun (r : Int32) (_ : Unit) => r = f_caN am co x mc) (fun _ => []) sz) 0 0 (va_A [] sz) := by
  refine z_met (y := yX5_countAhead) (cc := cX5_countAhead) (nL := 4) (rm := { frames := 4, cells := 0, slots := 0, locals := 89 }) (D := D) (tys := gT g) (wr := [(q0, .inr (7, [.ref q1, .ref q2, .ref q3, .ref q4, .ref q5, .ref q6, .int (nI mc), .int hc, .int ne, .int lo])), (q1, .inl (g 0, 64, .inl am)), (q2, .inl (g 0, 8, .inl co))]) (P0 := zNo) (As := [.ref q0, .int (nI x)]) (ww := []) (Qc := zQi D [] (fun (r : Int32) (_ : Unit) => r = f_caN am co x mc) (fun _ => [])) (ret := (some .int)) (by decide) rfl (Nat.le_of_ble_eq_true rfl) ?_ sz
  intro p e s m args below meth c A Q hA hQ F E hr hlk hin
  have L4 : ∀ (N4_ : Nat) (i : Nat) (v : Int32) (hN4_ : mc - i < N4_) (hi : i ≤ mc) (hv : v = f_caN am co x i), zW p l e { frames := 4, cells := 0, slots := 0, locals := 89 } s m args below meth c 4 D A Q 0 0 [] [(0, .ref q0), (1, .int (nI x)), (2, .int v), (3, .int (nI i))] [] 4 := by
    intro N4_
    induction N4_ with
    | zero =>
      intro i v hN4_
      exact absurd hN4_ (Nat.not_lt_zero _)
    | succ N4_ ih4 =>
      intro i v hN4_ hi hv
      refine z_iload_n F 3 dX5_countAhead_4 rfl rfl ?_
      refine z_aload_n F 0 dX5_countAhead_5 rfl rfl ?_
      refine z_get (C := RX5) (T := TX5) (N := 10) F (fun w h => List.mem_cons_of_mem _ (List.mem_append_left _ (List.mem_append_right _ (h)))) 0 rfl rfl 6 (by decide) (List.mem_cons_of_mem _ (List.mem_append_left _ (List.mem_append_left _ (List.mem_append_left _ (List.mem_of_getElem? (i := 0) rfl))))) rfl rfl dX5_countAhead_6 ?_
      refine z_icmp_ge (tgt := 30) F dX5_countAhead_9 (by decide) (fun c1 => ?_) (fun c1 => ?_)
      · have hi8 : i = mc := by have := z_ge (by omega) (by omega) (show nI mc ≤ nI i from c1); omega
        refine z_iload_n F 2 dX5_countAhead_30 rfl rfl ?_
        exact z_iret F hA hQ hlk hr () (by rw [hv, hi8]) (rfl) dX5_countAhead_31
      · have hi8 : i < mc := z_lt (by omega) (by omega) c1
        refine z_aload_n F 0 dX5_countAhead_12 rfl rfl ?_
        refine z_iload_n F 3 dX5_countAhead_13 rfl rfl ?_
        refine z_iload_n F 1 dX5_countAhead_14 rfl rfl ?_
        refine z_calli0 F (z_runV (st := []) F zNo_ok trivial (fun sz => c_X5_isAhead l D g q0 q1 q2 q3 q4 q5 q6 am co mc hc ne lo i x (by omega) (by omega) sz) (cwV 2 F.1.2.2.2.2 gX5_countAhead_X5_isAhead rfl rfl rfl (by decide +kernel) ⟨Nat.le_of_ble_eq_true rfl, Nat.le_of_ble_eq_true rfl⟩) 0 rfl rfl rfl [] [0, 1, 2] rfl rfl (by decide) rfl rfl (Nat.le_of_ble_eq_true rfl) dX5_countAhead_15 ⟨Nat.le_of_ble_eq_true rfl, Nat.le_of_ble_eq_true rfl⟩) (fun r3 _ hw2 => ?_)
        subst hw2
        refine z_if_eq (tgt := 24) F dX5_countAhead_18 (by decide) (fun c4 => ?_) (fun c4 => ?_)
        · refine z_iinc (v := nI (i + 1)) (lv' := [(3, .int (nI (i + 1))), (0, .ref q0), (1, .int (nI x)), (2, .int v)]) F dX5_countAhead_24 3 rfl (nI_1 i) (by decide) rfl ?_
          refine z_goto (tgt := 4) F dX5_countAhead_27 (by decide) ?_
          refine z_loc (lv' := [(0, .ref q0), (1, .int (nI x)), (2, .int v), (3, .int (nI (i + 1)))]) [1, 2, 3, 0] rfl ?_
          exact ih4 (i + 1) v (by omega) (by omega) (by first | rfl | (subst hv; simp only [f_caN, if_pos c4]))
        · refine z_iinc (v := v + 1) (lv' := [(2, .int (v + 1)), (0, .ref q0), (1, .int (nI x)), (3, .int (nI i))]) F dX5_countAhead_21 2 rfl (rfl) (by decide) rfl ?_
          refine z_iinc (v := nI (i + 1)) (lv' := [(3, .int (nI (i + 1))), (2, .int (v + 1)), (0, .ref q0), (1, .int (nI x))]) F dX5_countAhead_24 3 rfl (nI_1 i) (by decide) rfl ?_
          refine z_goto (tgt := 4) F dX5_countAhead_27 (by decide) ?_
          refine z_loc (lv' := [(0, .ref q0), (1, .int (nI x)), (2, .int (v + 1)), (3, .int (nI (i + 1)))]) [2, 3, 1, 0] rfl ?_
          exact ih4 (i + 1) (v + 1) (by omega) (by omega) (by first | rfl | (subst hv; simp only [f_caN, if_neg c4]))
  show zW p l e { frames := 4, cells := 0, slots := 0, locals := 89 } s m args below meth c 4 D A Q 0 0 [] [(0, .ref q0), (1, .int (nI x))] [] 0
  refine z_iconst (v := 0) F dX5_countAhead_0 (by decide) ?_
  refine z_istore_n (lv' := [(2, .int 0), (0, .ref q0), (1, .int (nI x))]) F dX5_countAhead_1 rfl (by decide) rfl ?_
  refine z_iconst (v := 0) F dX5_countAhead_2 (by decide) ?_
  refine z_istore_n (lv' := [(3, .int 0), (2, .int 0), (0, .ref q0), (1, .int (nI x))]) F dX5_countAhead_3 rfl (by decide) rfl ?_
  refine z_loc (lv' := [(0, .ref q0), (1, .int (nI x)), (2, .int 0), (3, .int (nI 0))]) [2, 3, 1, 0] rfl ?_
  exact L4 _ 0 0 (Nat.lt_succ_self _) (by omega) (by first | rfl | (subst hv; simp only [f_caN]))
set_option maxHeartbeats 4000000 in
set_option maxRecDepth 100000 in
theorem c_X5_memberAtRank (l : Launch) (D : va_G) (g : Nat → ClassId) (q0 : Nat) (q1 : Nat) (q2 : Nat) (q3 : Nat) (q4 : Nat) (q5 : Nat) (q6 : Nat) (am : Nat → Int32) (co : Nat → Int32) (mc : Nat) (hc : Int32) (ne : Int32) (lo : Int32) (v : Int32) (hm : mc ≤ 8) (sz : Nat) : Met l yX5_memberAtRank wsX5_memberAtRank { frames := 5, cells := 0, slots := 0, locals := 112 } (zPc D (gT g) zNo [.ref q0, .int v] [] [(q0, .inr (7, [.ref q1, .ref q2, .ref q3, .ref q4, .ref q5, .ref q6, .int (nI mc), .int hc, .int ne, .int lo])), (q1, .inl (g 0, 64, .inl am)), (q2, .inl (g 0, 8, .inl co))] sz) (zQi D [] (fun (r : Int32) (_ : Unit) => r = f_rank am co mc v) (fun _ => []) sz) 0 0 (va_A [] sz) := by
  refine z_met (y := yX5_memberAtRank) (cc := cX5_memberAtRank) (nL := 3) (rm := { frames := 5, cells := 0, slots := 0, locals := 112 }) (D := D) (tys := gT g) (wr := [(q0, .inr (7, [.ref q1, .ref q2, .ref q3, .ref q4, .ref q5, .ref q6, .int (nI mc), .int hc, .int ne, .int lo])), (q1, .inl (g 0, 64, .inl am)), (q2, .inl (g 0, 8, .inl co))]) (P0 := zNo) (As := [.ref q0, .int v]) (ww := []) (Qc := zQi D [] (fun (r : Int32) (_ : Unit) => r = f_rank am co mc v) (fun _ => [])) (ret := (some .int)) (by decide) rfl (Nat.le_of_ble_eq_true rfl) ?_ sz
  intro p e s m args below meth c A Q hA hQ F E hr hlk hin
  have L2 : ∀ (N2_ : Nat) (i : Nat) (hN2_ : mc - i < N2_) (hi : i ≤ mc) (hv : f_rank am co mc v = f_rankF am co mc v (mc - i) i), zW p l e { frames := 5, cells := 0, slots := 0, locals := 112 } s m args below meth c 3 D A Q 0 0 [] [(0, .ref q0), (1, .int v), (2, .int (nI i))] [] 2 := by
    intro N2_
    induction N2_ with
    | zero =>
      intro i hN2_
      exact absurd hN2_ (Nat.not_lt_zero _)
    | succ N2_ ih2 =>
      intro i hN2_ hi hv
      refine z_iload_n F 2 dX5_memberAtRank_2 rfl rfl ?_
      refine z_aload_n F 0 dX5_memberAtRank_3 rfl rfl ?_
      refine z_get (C := RX5) (T := TX5) (N := 10) F (fun w h => List.mem_cons_of_mem _ (List.mem_append_left _ (List.mem_append_right _ (h)))) 0 rfl rfl 6 (by decide) (List.mem_cons_of_mem _ (List.mem_append_left _ (List.mem_append_left _ (List.mem_append_left _ (List.mem_of_getElem? (i := 0) rfl))))) rfl rfl dX5_memberAtRank_4 ?_
      refine z_icmp_ge (tgt := 27) F dX5_memberAtRank_7 (by decide) (fun c1 => ?_) (fun c1 => ?_)
      · have hi8 : i = mc := by have := z_ge (by omega) (by omega) (show nI mc ≤ nI i from c1); omega
        refine z_iconst (v := (-1)) F dX5_memberAtRank_27 (by decide) ?_
        exact z_iret F hA hQ hlk hr () (by rw [hv, hi8, Nat.sub_self]; rfl) (rfl) dX5_memberAtRank_28
      · have hi8 : i < mc := z_lt (by omega) (by omega) c1
        refine z_aload_n F 0 dX5_memberAtRank_10 rfl rfl ?_
        refine z_iload_n F 2 dX5_memberAtRank_11 rfl rfl ?_
        refine z_calli0 F (z_runV (st := []) F zNo_ok trivial (fun sz => c_X5_countAhead l D g q0 q1 q2 q3 q4 q5 q6 am co mc hc ne lo i (by omega) (by omega) sz) (cwV 1 F.1.2.2.2.2 gX5_memberAtRank_X5_countAhead rfl rfl rfl (by decide +kernel) ⟨Nat.le_of_ble_eq_true rfl, Nat.le_of_ble_eq_true rfl⟩) 0 rfl rfl rfl [] [0, 1, 2] rfl rfl (by decide) rfl rfl (Nat.le_of_ble_eq_true rfl) dX5_memberAtRank_12 ⟨Nat.le_of_ble_eq_true rfl, Nat.le_of_ble_eq_true rfl⟩) (fun r3 _ hw2 => ?_)
        subst hw2
        refine z_iload_n F 1 dX5_memberAtRank_15 rfl rfl ?_
        refine z_icmp_ne (tgt := 21) F dX5_memberAtRank_16 (by decide) (fun c4 => ?_) (fun c4 => ?_)
        · refine z_iinc (v := nI (i + 1)) (lv' := [(2, .int (nI (i + 1))), (0, .ref q0), (1, .int v)]) F dX5_memberAtRank_21 2 rfl (nI_1 i) (by decide) rfl ?_
          refine z_goto (tgt := 2) F dX5_memberAtRank_24 (by decide) ?_
          refine z_loc (lv' := [(0, .ref q0), (1, .int v), (2, .int (nI (i + 1)))]) [1, 2, 0] rfl ?_
          exact ih2 (i + 1) (by omega) (by omega) (by rw [hv, show mc - i = (mc - (i + 1)) + 1 by omega]; simp only [f_rankF, if_neg c4])
        · refine z_iload_n F 2 dX5_memberAtRank_19 rfl rfl ?_
          exact z_iret F hA hQ hlk hr () (by rw [hv, show mc - i = (mc - (i + 1)) + 1 by omega]; simp only [f_rankF, if_pos c4]) (rfl) dX5_memberAtRank_20
  show zW p l e { frames := 5, cells := 0, slots := 0, locals := 112 } s m args below meth c 3 D A Q 0 0 [] [(0, .ref q0), (1, .int v)] [] 0
  refine z_iconst (v := 0) F dX5_memberAtRank_0 (by decide) ?_
  refine z_istore_n (lv' := [(2, .int 0), (0, .ref q0), (1, .int v)]) F dX5_memberAtRank_1 rfl (by decide) rfl ?_
  refine z_loc (lv' := [(0, .ref q0), (1, .int v), (2, .int (nI 0))]) [1, 2, 0] rfl ?_
  exact L2 _ 0 (Nat.lt_succ_self _) (by omega) (by rfl)
set_option maxHeartbeats 4000000 in
set_option maxRecDepth 100000 in
theorem c_X5_join (l : Launch) (D : va_G) (g : Nat → ClassId) (q0 : Nat) (q1 : Nat) (q2 : Nat) (q3 : Nat) (q4 : Nat) (q5 : Nat) (q6 : Nat) (co : Nat → Int32) (li : Nat → Int32) (mc : Nat) (hc : Int32) (ne : Int32) (lo : Int32) (hm : mc < 8) (sz : Nat) : Met l yX5_join wsX5_join { frames := 0, cells := 0, slots := 0, locals := 0 } (zPc D (gT g) zNo [.ref q0] [(q0, .inr (7, [.ref q1, .ref q2, .ref q3, .ref q4, .ref q5, .ref q6, .int (nI mc), .int hc, .int ne, .int lo])), (q2, .inl (g 0, 8, .inl co)), (q4, .inl (g 0, 8, .inl li))] [] sz) (zQi D [(q0, .inr (7, [.ref q1, .ref q2, .ref q3, .ref q4, .ref q5, .ref q6, .int (nI mc), .int hc, .int ne, .int lo])), (q2, .inl (g 0, 8, .inl co)), (q4, .inl (g 0, 8, .inl li))] (fun (r : Int32) (_ : Unit) => r = nI mc) (fun _ => [(q0, .inr (7, [.ref q1, .ref q2, .ref q3, .ref q4, .ref q5, .ref q6, .int (nI (mc + 1)), .int hc, .int ne, .int lo])), (q2, .inl (g 0, 8, .inl (upd co mc 30))), (q4, .inl (g 0, 8, .inl (upd li mc 99)))]) sz) 0 0 (va_A [(q0, .inr (7, [.ref q1, .ref q2, .ref q3, .ref q4, .ref q5, .ref q6, .int (nI mc), .int hc, .int ne, .int lo])), (q2, .inl (g 0, 8, .inl co)), (q4, .inl (g 0, 8, .inl li))] sz) := by
  refine z_met (y := yX5_join) (cc := cX5_join) (nL := 2) (rm := { frames := 0, cells := 0, slots := 0, locals := 0 }) (D := D) (tys := gT g) (wr := []) (P0 := zNo) (As := [.ref q0]) (ww := [(q0, .inr (7, [.ref q1, .ref q2, .ref q3, .ref q4, .ref q5, .ref q6, .int (nI mc), .int hc, .int ne, .int lo])), (q2, .inl (g 0, 8, .inl co)), (q4, .inl (g 0, 8, .inl li))]) (Qc := zQi D [(q0, .inr (7, [.ref q1, .ref q2, .ref q3, .ref q4, .ref q5, .ref q6, .int (nI mc), .int hc, .int ne, .int lo])), (q2, .inl (g 0, 8, .inl co)), (q4, .inl (g 0, 8, .inl li))] (fun (r : Int32) (_ : Unit) => r = nI mc) (fun _ => [(q0, .inr (7, [.ref q1, .ref q2, .ref q3, .ref q4, .ref q5, .ref q6, .int (nI (mc + 1)), .int hc, .int ne, .int lo])), (q2, .inl (g 0, 8, .inl (upd co mc 30))), (q4, .inl (g 0, 8, .inl (upd li mc 99)))])) (ret := (some .int)) (by decide) rfl (Nat.le_of_ble_eq_true rfl) ?_ sz
  intro p e s m args below meth c A Q hA hQ F E hr hlk hin
  show zW p l e { frames := 0, cells := 0, slots := 0, locals := 0 } s m args below meth c 2 D A Q 0 0 [(q0, .inr (7, [.ref q1, .ref q2, .ref q3, .ref q4, .ref q5, .ref q6, .int (nI mc), .int hc, .int ne, .int lo])), (q2, .inl (g 0, 8, .inl co)), (q4, .inl (g 0, 8, .inl li))] [(0, .ref q0)] [] 0
  refine z_aload_n F 0 dX5_join_0 rfl rfl ?_
  refine z_get (C := RX5) (T := TX5) (N := 10) F (fun w h => List.mem_cons_of_mem _ (List.mem_append_left _ (List.mem_append_right _ (h)))) 0 rfl rfl 6 (by decide) (List.mem_cons_of_mem _ (List.mem_append_left _ (List.mem_append_left _ (List.mem_of_getElem? (i := 0) rfl)))) rfl rfl dX5_join_1 ?_
  refine z_istore_n (lv' := [(1, .int (nI mc)), (0, .ref q0)]) F dX5_join_4 rfl (by decide) rfl ?_
  refine z_aload_n F 1 dX5_join_5 rfl rfl ?_
  refine z_get (C := RX5) (T := TX5) (N := 10) F (fun w h => List.mem_cons_of_mem _ (List.mem_append_left _ (List.mem_append_right _ (h)))) 0 rfl rfl 1 (by decide) (List.mem_cons_of_mem _ (List.mem_append_left _ (List.mem_append_left _ (List.mem_of_getElem? (i := 1) rfl)))) rfl rfl dX5_join_6 ?_
  refine z_iload_n F 0 dX5_join_9 rfl rfl ?_
  refine z_bipush (v := 30) F dX5_join_10 (by decide) ?_
  refine z_iastN (j := mc) (ws' := [(q0, .inr (7, [.ref q1, .ref q2, .ref q3, .ref q4, .ref q5, .ref q6, .int (nI mc), .int hc, .int ne, .int lo])), (q2, .inl (g 0, 8, .inl (upd co mc 30))), (q4, .inl (g 0, 8, .inl li))]) F 1 0 rfl rfl (by omega) (by decide) rfl dX5_join_12 ?_
  refine z_aload_n F 1 dX5_join_13 rfl rfl ?_
  refine z_get (C := RX5) (T := TX5) (N := 10) F (fun w h => List.mem_cons_of_mem _ (List.mem_append_left _ (List.mem_append_right _ (h)))) 0 rfl rfl 3 (by decide) (List.mem_cons_of_mem _ (List.mem_append_left _ (List.mem_append_left _ (List.mem_of_getElem? (i := 2) rfl)))) rfl rfl dX5_join_14 ?_
  refine z_iload_n F 0 dX5_join_17 rfl rfl ?_
  refine z_bipush (v := 99) F dX5_join_18 (by decide) ?_
  refine z_iastN (j := mc) (ws' := [(q0, .inr (7, [.ref q1, .ref q2, .ref q3, .ref q4, .ref q5, .ref q6, .int (nI mc), .int hc, .int ne, .int lo])), (q2, .inl (g 0, 8, .inl (upd co mc 30))), (q4, .inl (g 0, 8, .inl (upd li mc 99)))]) F 2 0 rfl rfl (by omega) (by decide) rfl dX5_join_20 ?_
  refine z_aload_n F 1 dX5_join_21 rfl rfl ?_
  refine z_dup F dX5_join_22 rfl ?_
  refine z_get (C := RX5) (T := TX5) (N := 10) F (fun w h => List.mem_cons_of_mem _ (List.mem_append_left _ (List.mem_append_right _ (h)))) 0 rfl rfl 6 (by decide) (List.mem_cons_of_mem _ (List.mem_append_left _ (List.mem_append_left _ (List.mem_of_getElem? (i := 0) rfl)))) rfl rfl dX5_join_23 ?_
  refine z_iconst (v := 1) F dX5_join_26 (by decide) ?_
  refine z_iadd F dX5_join_27 ?_
  refine z_top (y := nI (mc + 1)) (nI_1 mc) ?_
  refine z_put (C := RX5) (T := TX5) (N := 10) (ty := .int) (ws' := [(q0, .inr (7, [.ref q1, .ref q2, .ref q3, .ref q4, .ref q5, .ref q6, .int (nI (mc + 1)), .int hc, .int ne, .int lo])), (q2, .inl (g 0, 8, .inl (upd co mc 30))), (q4, .inl (g 0, 8, .inl (upd li mc 99)))]) F (fun w h => List.mem_cons_of_mem _ (List.mem_append_left _ (List.mem_append_right _ (h)))) tyX5 tyX5_ok nmX5 0 rfl rfl 6 (by decide) (List.mem_cons_of_mem _ (List.mem_append_left _ (List.mem_append_left _ (List.mem_of_getElem? (i := 0) rfl)))) rfl rfl (by decide +kernel) (rfl) (rfl) (Nat.le_of_ble_eq_true rfl) rfl dX5_join_28 ?_
  refine z_iload_n F 0 dX5_join_31 rfl rfl ?_
  exact z_iret F hA hQ hlk hr () (rfl) (rfl) dX5_join_32
set_option maxHeartbeats 4000000 in
set_option maxRecDepth 100000 in
theorem c_X5_changeDebt (l : Launch) (D : va_G) (g : Nat → ClassId) (q0 : Nat) (q1 : Nat) (q2 : Nat) (q3 : Nat) (q4 : Nat) (q5 : Nat) (q6 : Nat) (am : Nat → Int32) (ac : Nat → Int32) (mc : Nat) (hc : Int32) (ne : Int32) (lo : Int32) (x : Nat) (y : Nat) (v : Int32) (hx : x < 8) (hy : y < 8) (sz : Nat) : Met l yX5_changeDebt wsX5_changeDebt { frames := 1, cells := 0, slots := 0, locals := 22 } (zPc D (gT g) zNo [.ref q0, .int (nI x), .int (nI y), .int v] [(q1, .inl (g 0, 64, .inl am)), (q5, .inl (g 0, 8, .inl ac))] [(q0, .inr (7, [.ref q1, .ref q2, .ref q3, .ref q4, .ref q5, .ref q6, .int (nI mc), .int hc, .int ne, .int lo]))] sz) (zQi D [(q1, .inl (g 0, 64, .inl am)), (q5, .inl (g 0, 8, .inl ac))] (fun (r : Int32) (_ : Unit) => r = am (8 * x + y) + v) (fun _ => [(q1, .inl (g 0, 64, .inl (f_chA am x y v))), (q5, .inl (g 0, 8, .inl (f_chC ac x y v)))]) sz) 0 0 (va_A [(q1, .inl (g 0, 64, .inl am)), (q5, .inl (g 0, 8, .inl ac))] sz) := by
  refine z_met (y := yX5_changeDebt) (cc := cX5_changeDebt) (nL := 4) (rm := { frames := 1, cells := 0, slots := 0, locals := 22 }) (D := D) (tys := gT g) (wr := [(q0, .inr (7, [.ref q1, .ref q2, .ref q3, .ref q4, .ref q5, .ref q6, .int (nI mc), .int hc, .int ne, .int lo]))]) (P0 := zNo) (As := [.ref q0, .int (nI x), .int (nI y), .int v]) (ww := [(q1, .inl (g 0, 64, .inl am)), (q5, .inl (g 0, 8, .inl ac))]) (Qc := zQi D [(q1, .inl (g 0, 64, .inl am)), (q5, .inl (g 0, 8, .inl ac))] (fun (r : Int32) (_ : Unit) => r = am (8 * x + y) + v) (fun _ => [(q1, .inl (g 0, 64, .inl (f_chA am x y v))), (q5, .inl (g 0, 8, .inl (f_chC ac x y v)))])) (ret := (some .int)) (by decide) rfl (Nat.le_of_ble_eq_true rfl) ?_ sz
  intro p e s m args below meth c A Q hA hQ F E hr hlk hin
  show zW p l e { frames := 1, cells := 0, slots := 0, locals := 22 } s m args below meth c 4 D A Q 0 0 [(q1, .inl (g 0, 64, .inl am)), (q5, .inl (g 0, 8, .inl ac))] [(0, .ref q0), (1, .int (nI x)), (2, .int (nI y)), (3, .int v)] [] 0
  refine z_aload_n F 0 dX5_changeDebt_0 rfl rfl ?_
  refine z_get (C := RX5) (T := TX5) (N := 10) F (fun w h => List.mem_cons_of_mem _ (List.mem_append_left _ (List.mem_append_right _ (h)))) 2 rfl rfl 0 (by decide) (List.mem_cons_of_mem _ (List.mem_append_left _ (List.mem_append_left _ (List.mem_of_getElem? (i := 0) rfl)))) rfl rfl dX5_changeDebt_1 ?_
  refine z_iload_n F 1 dX5_changeDebt_4 rfl rfl ?_
  refine z_bipush (v := 8) F dX5_changeDebt_5 (by decide) ?_
  refine z_imul F dX5_changeDebt_7 ?_
  refine z_iload_n F 2 dX5_changeDebt_8 rfl rfl ?_
  refine z_iadd F dX5_changeDebt_9 ?_
  refine z_top (y := nI (8 * x + y)) (z_ix x y) ?_
  refine z_dup2 F dX5_changeDebt_10 rfl rfl ?_
  refine z_ialdN (j := 8 * x + y) F 0 0 rfl rfl (by omega) (by decide) dX5_changeDebt_11 ?_
  refine z_iload_n F 3 dX5_changeDebt_12 rfl rfl ?_
  refine z_iadd F dX5_changeDebt_13 ?_
  refine z_iastN (j := 8 * x + y) (ws' := [(q1, .inl (g 0, 64, .inl (upd am (8 * x + y) ((am (8 * x + y)) + v)))), (q5, .inl (g 0, 8, .inl ac))]) F 0 0 rfl rfl (by omega) (by decide) rfl dX5_changeDebt_14 ?_
  refine z_aload_n F 0 dX5_changeDebt_15 rfl rfl ?_
  refine z_get (C := RX5) (T := TX5) (N := 10) F (fun w h => List.mem_cons_of_mem _ (List.mem_append_left _ (List.mem_append_right _ (h)))) 2 rfl rfl 4 (by decide) (List.mem_cons_of_mem _ (List.mem_append_left _ (List.mem_append_left _ (List.mem_of_getElem? (i := 1) rfl)))) rfl rfl dX5_changeDebt_16 ?_
  refine z_iload_n F 1 dX5_changeDebt_19 rfl rfl ?_
  refine z_dup2 F dX5_changeDebt_20 rfl rfl ?_
  refine z_ialdN (j := x) F 1 0 rfl rfl (by omega) (by decide) dX5_changeDebt_21 ?_
  refine z_iload_n F 3 dX5_changeDebt_22 rfl rfl ?_
  refine z_isub F dX5_changeDebt_23 ?_
  refine z_iastN (j := x) (ws' := [(q1, .inl (g 0, 64, .inl (upd am (8 * x + y) ((am (8 * x + y)) + v)))), (q5, .inl (g 0, 8, .inl (upd ac x ((ac x) - v))))]) F 1 0 rfl rfl (by omega) (by decide) rfl dX5_changeDebt_24 ?_
  refine z_aload_n F 0 dX5_changeDebt_25 rfl rfl ?_
  refine z_get (C := RX5) (T := TX5) (N := 10) F (fun w h => List.mem_cons_of_mem _ (List.mem_append_left _ (List.mem_append_right _ (h)))) 2 rfl rfl 4 (by decide) (List.mem_cons_of_mem _ (List.mem_append_left _ (List.mem_append_left _ (List.mem_of_getElem? (i := 1) rfl)))) rfl rfl dX5_changeDebt_26 ?_
  refine z_iload_n F 2 dX5_changeDebt_29 rfl rfl ?_
  refine z_dup2 F dX5_changeDebt_30 rfl rfl ?_
  refine z_ialdN (j := y) F 1 0 rfl rfl (by omega) (by decide) dX5_changeDebt_31 ?_
  refine z_iload_n F 3 dX5_changeDebt_32 rfl rfl ?_
  refine z_iadd F dX5_changeDebt_33 ?_
  refine z_iastN (j := y) (ws' := [(q1, .inl (g 0, 64, .inl (upd am (8 * x + y) ((am (8 * x + y)) + v)))), (q5, .inl (g 0, 8, .inl (upd (upd ac x ((ac x) - v)) y (((upd ac x ((ac x) - v)) y) + v))))]) F 1 0 rfl rfl (by omega) (by decide) rfl dX5_changeDebt_34 ?_
  refine z_aload_n F 0 dX5_changeDebt_35 rfl rfl ?_
  refine z_iload_n F 1 dX5_changeDebt_36 rfl rfl ?_
  refine z_iload_n F 2 dX5_changeDebt_37 rfl rfl ?_
  refine z_calli0 F (z_runV (st := []) F zNo_ok trivial (fun sz => c_X5_amountOwed l D g q0 q1 q2 q3 q4 q5 q6 (upd am (8 * x + y) ((am (8 * x + y)) + v)) mc hc ne lo x y (by omega) (by omega) sz) (cwV 2 F.1.2.2.2.2 gX5_changeDebt_X5_amountOwed rfl rfl rfl (by decide +kernel) ⟨Nat.le_of_ble_eq_true rfl, Nat.le_of_ble_eq_true rfl⟩) 2 rfl rfl rfl [] [2, 0] rfl rfl (by decide) rfl rfl (Nat.le_of_ble_eq_true rfl) dX5_changeDebt_38 ⟨Nat.le_of_ble_eq_true rfl, Nat.le_of_ble_eq_true rfl⟩) (fun r2 _ hw1 => ?_)
  subst hw1
  exact z_iret F hA hQ hlk hr () (pk_us) (rfl) dX5_changeDebt_41
set_option maxHeartbeats 4000000 in
set_option maxRecDepth 100000 in
theorem c_X5_payDebt (l : Launch) (D : va_G) (g : Nat → ClassId) (q0 : Nat) (q1 : Nat) (q2 : Nat) (q3 : Nat) (q4 : Nat) (q5 : Nat) (q6 : Nat) (am : Nat → Int32) (co : Nat → Int32) (ac : Nat → Int32) (mc : Nat) (hc : Int32) (ne : Int32) (lo : Int32) (x : Nat) (y : Nat) (v : Int32) (hx : x < 8) (hy : y < 8) (sz : Nat) : Met l yX5_payDebt wsX5_payDebt { frames := 2, cells := 0, slots := 0, locals := 45 } (zPc D (gT g) zNo [.ref q0, .int (nI x), .int (nI y), .int v] [(q1, .inl (g 0, 64, .inl am)), (q2, .inl (g 0, 8, .inl co)), (q5, .inl (g 0, 8, .inl ac))] [(q0, .inr (7, [.ref q1, .ref q2, .ref q3, .ref q4, .ref q5, .ref q6, .int (nI mc), .int hc, .int ne, .int lo]))] sz) (zQi D [(q1, .inl (g 0, 64, .inl am)), (q2, .inl (g 0, 8, .inl co)), (q5, .inl (g 0, 8, .inl ac))] (fun (r : Int32) (_ : Unit) => r = am (8 * x + y) + -v) (fun _ => [(q1, .inl (g 0, 64, .inl (f_chA am x y (-v)))), (q2, .inl (g 0, 8, .inl (f_pyC co x y v))), (q5, .inl (g 0, 8, .inl (f_chC ac x y (-v))))]) sz) 0 0 (va_A [(q1, .inl (g 0, 64, .inl am)), (q2, .inl (g 0, 8, .inl co)), (q5, .inl (g 0, 8, .inl ac))] sz) := by
  refine z_met (y := yX5_payDebt) (cc := cX5_payDebt) (nL := 4) (rm := { frames := 2, cells := 0, slots := 0, locals := 45 }) (D := D) (tys := gT g) (wr := [(q0, .inr (7, [.ref q1, .ref q2, .ref q3, .ref q4, .ref q5, .ref q6, .int (nI mc), .int hc, .int ne, .int lo]))]) (P0 := zNo) (As := [.ref q0, .int (nI x), .int (nI y), .int v]) (ww := [(q1, .inl (g 0, 64, .inl am)), (q2, .inl (g 0, 8, .inl co)), (q5, .inl (g 0, 8, .inl ac))]) (Qc := zQi D [(q1, .inl (g 0, 64, .inl am)), (q2, .inl (g 0, 8, .inl co)), (q5, .inl (g 0, 8, .inl ac))] (fun (r : Int32) (_ : Unit) => r = am (8 * x + y) + -v) (fun _ => [(q1, .inl (g 0, 64, .inl (f_chA am x y (-v)))), (q2, .inl (g 0, 8, .inl (f_pyC co x y v))), (q5, .inl (g 0, 8, .inl (f_chC ac x y (-v))))])) (ret := (some .int)) (by decide) rfl (Nat.le_of_ble_eq_true rfl) ?_ sz
  intro p e s m args below meth c A Q hA hQ F E hr hlk hin
  show zW p l e { frames := 2, cells := 0, slots := 0, locals := 45 } s m args below meth c 4 D A Q 0 0 [(q1, .inl (g 0, 64, .inl am)), (q2, .inl (g 0, 8, .inl co)), (q5, .inl (g 0, 8, .inl ac))] [(0, .ref q0), (1, .int (nI x)), (2, .int (nI y)), (3, .int v)] [] 0
  refine z_aload_n F 0 dX5_payDebt_0 rfl rfl ?_
  refine z_get (C := RX5) (T := TX5) (N := 10) F (fun w h => List.mem_cons_of_mem _ (List.mem_append_left _ (List.mem_append_right _ (h)))) 3 rfl rfl 1 (by decide) (List.mem_cons_of_mem _ (List.mem_append_left _ (List.mem_append_left _ (List.mem_of_getElem? (i := 0) rfl)))) rfl rfl dX5_payDebt_1 ?_
  refine z_iload_n F 1 dX5_payDebt_4 rfl rfl ?_
  refine z_dup2 F dX5_payDebt_5 rfl rfl ?_
  refine z_ialdN (j := x) F 1 0 rfl rfl (by omega) (by decide) dX5_payDebt_6 ?_
  refine z_iload_n F 3 dX5_payDebt_7 rfl rfl ?_
  refine z_isub F dX5_payDebt_8 ?_
  refine z_iastN (j := x) (ws' := [(q1, .inl (g 0, 64, .inl am)), (q2, .inl (g 0, 8, .inl (upd co x ((co x) - v)))), (q5, .inl (g 0, 8, .inl ac))]) F 1 0 rfl rfl (by omega) (by decide) rfl dX5_payDebt_9 ?_
  refine z_aload_n F 0 dX5_payDebt_10 rfl rfl ?_
  refine z_get (C := RX5) (T := TX5) (N := 10) F (fun w h => List.mem_cons_of_mem _ (List.mem_append_left _ (List.mem_append_right _ (h)))) 3 rfl rfl 1 (by decide) (List.mem_cons_of_mem _ (List.mem_append_left _ (List.mem_append_left _ (List.mem_of_getElem? (i := 0) rfl)))) rfl rfl dX5_payDebt_11 ?_
  refine z_iload_n F 2 dX5_payDebt_14 rfl rfl ?_
  refine z_dup2 F dX5_payDebt_15 rfl rfl ?_
  refine z_ialdN (j := y) F 1 0 rfl rfl (by omega) (by decide) dX5_payDebt_16 ?_
  refine z_iload_n F 3 dX5_payDebt_17 rfl rfl ?_
  refine z_iadd F dX5_payDebt_18 ?_
  refine z_iastN (j := y) (ws' := [(q1, .inl (g 0, 64, .inl am)), (q2, .inl (g 0, 8, .inl (upd (upd co x ((co x) - v)) y (((upd co x ((co x) - v)) y) + v)))), (q5, .inl (g 0, 8, .inl ac))]) F 1 0 rfl rfl (by omega) (by decide) rfl dX5_payDebt_19 ?_
  refine z_aload_n F 0 dX5_payDebt_20 rfl rfl ?_
  refine z_iload_n F 1 dX5_payDebt_21 rfl rfl ?_
  refine z_iload_n F 2 dX5_payDebt_22 rfl rfl ?_
  refine z_iload_n F 3 dX5_payDebt_23 rfl rfl ?_
  refine z_ineg F dX5_payDebt_24 ?_
  refine z_calli (wn := [(q2, .inl (g 0, 8, .inl (upd (upd co x ((co x) - v)) y (((upd co x ((co x) - v)) y) + v))))]) (wf := fun _ => [(q1, .inl (g 0, 64, .inl (f_chA am x y (-v)))), (q2, .inl (g 0, 8, .inl (upd (upd co x ((co x) - v)) y (((upd co x ((co x) - v)) y) + v)))), (q5, .inl (g 0, 8, .inl (f_chC ac x y (-v))))]) F (z_runV (st := []) F zNo_ok trivial (fun sz => c_X5_changeDebt l D g q0 q1 q2 q3 q4 q5 q6 am ac mc hc ne lo x y (-v) (by omega) (by omega) sz) (cwV 3 F.1.2.2.2.2 gX5_payDebt_X5_changeDebt rfl rfl rfl (by decide +kernel) ⟨Nat.le_of_ble_eq_true rfl, Nat.le_of_ble_eq_true rfl⟩) 3 rfl rfl rfl [0, 2] [3] rfl rfl (by decide) rfl rfl (Nat.le_of_ble_eq_true rfl) dX5_payDebt_25 ⟨Nat.le_of_ble_eq_true rfl, Nat.le_of_ble_eq_true rfl⟩) [0, 2] [1] [1, 0, 2] rfl rfl (by decide) (by decide) (by decide) (fun _ => rfl) (fun r2 _ hw1 => ?_)
  subst hw1
  exact z_iret F hA hQ hlk hr () (rfl) (rfl) dX5_payDebt_28
set_option maxHeartbeats 4000000 in
set_option maxRecDepth 100000 in
theorem c_X5_netTwo (l : Launch) (D : va_G) (g : Nat → ClassId) (q0 : Nat) (q1 : Nat) (q2 : Nat) (q3 : Nat) (q4 : Nat) (q5 : Nat) (q6 : Nat) (am : Nat → Int32) (ac : Nat → Int32) (mc : Nat) (hc : Int32) (ne : Int32) (lo : Int32) (x : Nat) (y : Nat) (hx : x < 8) (hy : y < 8) (sz : Nat) : Met l yX5_netTwo wsX5_netTwo { frames := 2, cells := 0, slots := 0, locals := 45 } (zPc D (gT g) zNo [.ref q0, .int (nI x), .int (nI y)] [(q0, .inr (7, [.ref q1, .ref q2, .ref q3, .ref q4, .ref q5, .ref q6, .int (nI mc), .int hc, .int ne, .int lo])), (q1, .inl (g 0, 64, .inl am)), (q5, .inl (g 0, 8, .inl ac))] [] sz) (zQi D [(q0, .inr (7, [.ref q1, .ref q2, .ref q3, .ref q4, .ref q5, .ref q6, .int (nI mc), .int hc, .int ne, .int lo])), (q1, .inl (g 0, 64, .inl am)), (q5, .inl (g 0, 8, .inl ac))] (fun (r : Int32) (_ : Unit) => r = f_n2 am x y) (fun _ => [(q0, .inr (7, [.ref q1, .ref q2, .ref q3, .ref q4, .ref q5, .ref q6, .int (nI mc), .int hc, .int (ne + 2 * f_n2 am x y), .int lo])), (q1, .inl (g 0, 64, .inl (f_chA (f_chA am x y (-(f_n2 am x y))) y x (-(f_n2 am x y))))), (q5, .inl (g 0, 8, .inl (f_chC (f_chC ac x y (-(f_n2 am x y))) y x (-(f_n2 am x y)))))]) sz) 0 0 (va_A [(q0, .inr (7, [.ref q1, .ref q2, .ref q3, .ref q4, .ref q5, .ref q6, .int (nI mc), .int hc, .int ne, .int lo])), (q1, .inl (g 0, 64, .inl am)), (q5, .inl (g 0, 8, .inl ac))] sz) := by
  refine z_met (y := yX5_netTwo) (cc := cX5_netTwo) (nL := 4) (rm := { frames := 2, cells := 0, slots := 0, locals := 45 }) (D := D) (tys := gT g) (wr := []) (P0 := zNo) (As := [.ref q0, .int (nI x), .int (nI y)]) (ww := [(q0, .inr (7, [.ref q1, .ref q2, .ref q3, .ref q4, .ref q5, .ref q6, .int (nI mc), .int hc, .int ne, .int lo])), (q1, .inl (g 0, 64, .inl am)), (q5, .inl (g 0, 8, .inl ac))]) (Qc := zQi D [(q0, .inr (7, [.ref q1, .ref q2, .ref q3, .ref q4, .ref q5, .ref q6, .int (nI mc), .int hc, .int ne, .int lo])), (q1, .inl (g 0, 64, .inl am)), (q5, .inl (g 0, 8, .inl ac))] (fun (r : Int32) (_ : Unit) => r = f_n2 am x y) (fun _ => [(q0, .inr (7, [.ref q1, .ref q2, .ref q3, .ref q4, .ref q5, .ref q6, .int (nI mc), .int hc, .int (ne + 2 * f_n2 am x y), .int lo])), (q1, .inl (g 0, 64, .inl (f_chA (f_chA am x y (-(f_n2 am x y))) y x (-(f_n2 am x y))))), (q5, .inl (g 0, 8, .inl (f_chC (f_chC ac x y (-(f_n2 am x y))) y x (-(f_n2 am x y)))))])) (ret := (some .int)) (by decide) rfl (Nat.le_of_ble_eq_true rfl) ?_ sz
  intro p e s m args below meth c A Q hA hQ F E hr hlk hin
  show zW p l e { frames := 2, cells := 0, slots := 0, locals := 45 } s m args below meth c 4 D A Q 0 0 [(q0, .inr (7, [.ref q1, .ref q2, .ref q3, .ref q4, .ref q5, .ref q6, .int (nI mc), .int hc, .int ne, .int lo])), (q1, .inl (g 0, 64, .inl am)), (q5, .inl (g 0, 8, .inl ac))] [(0, .ref q0), (1, .int (nI x)), (2, .int (nI y))] [] 0
  refine z_aload_n F 0 dX5_netTwo_0 rfl rfl ?_
  refine z_iload_n F 1 dX5_netTwo_1 rfl rfl ?_
  refine z_iload_n F 2 dX5_netTwo_2 rfl rfl ?_
  refine z_calli0 F (z_runV (st := []) F zNo_ok trivial (fun sz => c_X5_amountOwed l D g q0 q1 q2 q3 q4 q5 q6 am mc hc ne lo x y (by omega) (by omega) sz) (cwV 2 F.1.2.2.2.2 gX5_netTwo_X5_amountOwed rfl rfl rfl (by decide +kernel) ⟨Nat.le_of_ble_eq_true rfl, Nat.le_of_ble_eq_true rfl⟩) 0 rfl rfl rfl [] [0, 1] rfl rfl (by decide) rfl rfl (Nat.le_of_ble_eq_true rfl) dX5_netTwo_3 ⟨Nat.le_of_ble_eq_true rfl, Nat.le_of_ble_eq_true rfl⟩) (fun r2 _ hw1 => ?_)
  subst hw1
  refine z_aload_n F 0 dX5_netTwo_6 rfl rfl ?_
  refine z_iload_n F 2 dX5_netTwo_7 rfl rfl ?_
  refine z_iload_n F 1 dX5_netTwo_8 rfl rfl ?_
  refine z_calli0 F (z_runV (st := [.int (am (8 * x + y))]) F zNo_ok trivial (fun sz => c_X5_amountOwed l D g q0 q1 q2 q3 q4 q5 q6 am mc hc ne lo y x (by omega) (by omega) sz) (cwV 2 F.1.2.2.2.2 gX5_netTwo_X5_amountOwed rfl rfl rfl (by decide +kernel) ⟨Nat.le_of_ble_eq_true rfl, Nat.le_of_ble_eq_true rfl⟩) 0 rfl rfl rfl [] [0, 1] rfl rfl (by decide) rfl rfl (Nat.le_of_ble_eq_true rfl) dX5_netTwo_9 ⟨Nat.le_of_ble_eq_true rfl, Nat.le_of_ble_eq_true rfl⟩) (fun r4 _ hw3 => ?_)
  subst hw3
  refine z_mmin F (List.mem_cons_of_mem _ (List.mem_append_left _ (List.mem_append_left _ (List.mem_of_getElem? (i := 0) rfl)))) (List.mem_cons_of_mem _ (List.mem_append_left _ (List.mem_append_left _ (List.mem_of_getElem? (i := 1) rfl)))) (List.mem_cons_of_mem _ (List.mem_append_left _ (List.mem_append_left _ (List.mem_of_getElem? (i := 2) rfl)))) (List.mem_cons_of_mem _ (List.mem_append_left _ (List.mem_append_left _ (List.mem_of_getElem? (i := 3) rfl)))) (Nat.le_of_ble_eq_true rfl) (Nat.le_of_ble_eq_true rfl) (Nat.le_of_ble_eq_true rfl) (Nat.le_of_ble_eq_true rfl) dX5_netTwo_12 ?_
  refine z_top (y := f_n2 am x y) (rfl) ?_
  refine z_istore_n (lv' := [(3, .int (f_n2 am x y)), (0, .ref q0), (1, .int (nI x)), (2, .int (nI y))]) F dX5_netTwo_15 rfl (by decide) rfl ?_
  refine z_aload_n F 1 dX5_netTwo_16 rfl rfl ?_
  refine z_iload_n F 2 dX5_netTwo_17 rfl rfl ?_
  refine z_iload_n F 3 dX5_netTwo_18 rfl rfl ?_
  refine z_iload_n F 0 dX5_netTwo_19 rfl rfl ?_
  refine z_ineg F dX5_netTwo_20 ?_
  refine z_calli (wn := [(q0, .inr (7, [.ref q1, .ref q2, .ref q3, .ref q4, .ref q5, .ref q6, .int (nI mc), .int hc, .int ne, .int lo]))]) (wf := fun _ => [(q0, .inr (7, [.ref q1, .ref q2, .ref q3, .ref q4, .ref q5, .ref q6, .int (nI mc), .int hc, .int ne, .int lo])), (q1, .inl (g 0, 64, .inl (f_chA am x y (-(f_n2 am x y))))), (q5, .inl (g 0, 8, .inl (f_chC ac x y (-(f_n2 am x y)))))]) F (z_runV (st := []) F zNo_ok trivial (fun sz => c_X5_changeDebt l D g q0 q1 q2 q3 q4 q5 q6 am ac mc hc ne lo x y (-(f_n2 am x y)) (by omega) (by omega) sz) (cwV 3 F.1.2.2.2.2 gX5_netTwo_X5_changeDebt rfl rfl rfl (by decide +kernel) ⟨Nat.le_of_ble_eq_true rfl, Nat.le_of_ble_eq_true rfl⟩) 0 rfl rfl rfl [1, 2] [0] rfl rfl (by decide) rfl rfl (Nat.le_of_ble_eq_true rfl) dX5_netTwo_21 ⟨Nat.le_of_ble_eq_true rfl, Nat.le_of_ble_eq_true rfl⟩) [1, 2] [0] [0, 1, 2] rfl rfl (by decide) (by decide) (by decide) (fun _ => rfl) (fun r6 _ hw5 => ?_)
  subst hw5
  refine z_pop F dX5_netTwo_24 rfl ?_
  refine z_aload_n F 1 dX5_netTwo_25 rfl rfl ?_
  refine z_iload_n F 3 dX5_netTwo_26 rfl rfl ?_
  refine z_iload_n F 2 dX5_netTwo_27 rfl rfl ?_
  refine z_iload_n F 0 dX5_netTwo_28 rfl rfl ?_
  refine z_ineg F dX5_netTwo_29 ?_
  refine z_calli (wn := [(q0, .inr (7, [.ref q1, .ref q2, .ref q3, .ref q4, .ref q5, .ref q6, .int (nI mc), .int hc, .int ne, .int lo]))]) (wf := fun _ => [(q0, .inr (7, [.ref q1, .ref q2, .ref q3, .ref q4, .ref q5, .ref q6, .int (nI mc), .int hc, .int ne, .int lo])), (q1, .inl (g 0, 64, .inl (f_chA (f_chA am x y (-(f_n2 am x y))) y x (-(f_n2 am x y))))), (q5, .inl (g 0, 8, .inl (f_chC (f_chC ac x y (-(f_n2 am x y))) y x (-(f_n2 am x y)))))]) F (z_runV (st := []) F zNo_ok trivial (fun sz => c_X5_changeDebt l D g q0 q1 q2 q3 q4 q5 q6 (f_chA am x y (-(f_n2 am x y))) (f_chC ac x y (-(f_n2 am x y))) mc hc ne lo y x (-(f_n2 am x y)) (by omega) (by omega) sz) (cwV 3 F.1.2.2.2.2 gX5_netTwo_X5_changeDebt rfl rfl rfl (by decide +kernel) ⟨Nat.le_of_ble_eq_true rfl, Nat.le_of_ble_eq_true rfl⟩) 0 rfl rfl rfl [1, 2] [0] rfl rfl (by decide) rfl rfl (Nat.le_of_ble_eq_true rfl) dX5_netTwo_30 ⟨Nat.le_of_ble_eq_true rfl, Nat.le_of_ble_eq_true rfl⟩) [1, 2] [0] [0, 1, 2] rfl rfl (by decide) (by decide) (by decide) (fun _ => rfl) (fun r8 _ hw7 => ?_)
  subst hw7
  refine z_pop F dX5_netTwo_33 rfl ?_
  refine z_aload_n F 1 dX5_netTwo_34 rfl rfl ?_
  refine z_dup F dX5_netTwo_35 rfl ?_
  refine z_get (C := RX5) (T := TX5) (N := 10) F (fun w h => List.mem_cons_of_mem _ (List.mem_append_left _ (List.mem_append_right _ (h)))) 0 rfl rfl 8 (by decide) (List.mem_cons_of_mem _ (List.mem_append_left _ (List.mem_append_left _ (List.mem_of_getElem? (i := 4) rfl)))) rfl rfl dX5_netTwo_36 ?_
  refine z_iconst (v := 2) F dX5_netTwo_39 (by decide) ?_
  refine z_iload_n F 0 dX5_netTwo_40 rfl rfl ?_
  refine z_imul F dX5_netTwo_41 ?_
  refine z_iadd F dX5_netTwo_42 ?_
  refine z_put (C := RX5) (T := TX5) (N := 10) (ty := .int) (ws' := [(q0, .inr (7, [.ref q1, .ref q2, .ref q3, .ref q4, .ref q5, .ref q6, .int (nI mc), .int hc, .int (ne + (2 * (f_n2 am x y))), .int lo])), (q1, .inl (g 0, 64, .inl (f_chA (f_chA am x y (-(f_n2 am x y))) y x (-(f_n2 am x y))))), (q5, .inl (g 0, 8, .inl (f_chC (f_chC ac x y (-(f_n2 am x y))) y x (-(f_n2 am x y)))))]) F (fun w h => List.mem_cons_of_mem _ (List.mem_append_left _ (List.mem_append_right _ (h)))) tyX5 tyX5_ok nmX5 0 rfl rfl 8 (by decide) (List.mem_cons_of_mem _ (List.mem_append_left _ (List.mem_append_left _ (List.mem_of_getElem? (i := 4) rfl)))) rfl rfl (by decide +kernel) (rfl) (rfl) (Nat.le_of_ble_eq_true rfl) rfl dX5_netTwo_43 ?_
  refine z_iload_n F 0 dX5_netTwo_46 rfl rfl ?_
  exact z_iret F hA hQ hlk hr () (rfl) (rfl) dX5_netTwo_47
set_option maxHeartbeats 4000000 in
set_option maxRecDepth 100000 in
theorem c_X5_netThree (l : Launch) (D : va_G) (g : Nat → ClassId) (q0 : Nat) (q1 : Nat) (q2 : Nat) (q3 : Nat) (q4 : Nat) (q5 : Nat) (q6 : Nat) (am : Nat → Int32) (ac : Nat → Int32) (mc : Nat) (hc : Int32) (ne : Int32) (lo : Int32) (x : Nat) (y : Nat) (z : Nat) (hx : x < 8) (hy : y < 8) (hz : z < 8) (sz : Nat) : Met l yX5_netThree wsX5_netThree { frames := 2, cells := 0, slots := 0, locals := 45 } (zPc D (gT g) zNo [.ref q0, .int (nI x), .int (nI y), .int (nI z)] [(q0, .inr (7, [.ref q1, .ref q2, .ref q3, .ref q4, .ref q5, .ref q6, .int (nI mc), .int hc, .int ne, .int lo])), (q1, .inl (g 0, 64, .inl am)), (q5, .inl (g 0, 8, .inl ac))] [] sz) (zQi D [(q0, .inr (7, [.ref q1, .ref q2, .ref q3, .ref q4, .ref q5, .ref q6, .int (nI mc), .int hc, .int ne, .int lo])), (q1, .inl (g 0, 64, .inl am)), (q5, .inl (g 0, 8, .inl ac))] (fun (r : Int32) (_ : Unit) => r = f_n3 am x y z) (fun _ => [(q0, .inr (7, [.ref q1, .ref q2, .ref q3, .ref q4, .ref q5, .ref q6, .int (nI mc), .int hc, .int (ne + 3 * f_n3 am x y z), .int lo])), (q1, .inl (g 0, 64, .inl (f_chA (f_chA (f_chA am x y (-(f_n3 am x y z))) y z (-(f_n3 am x y z))) z x (-(f_n3 am x y z))))), (q5, .inl (g 0, 8, .inl (f_chC (f_chC (f_chC ac x y (-(f_n3 am x y z))) y z (-(f_n3 am x y z))) z x (-(f_n3 am x y z)))))]) sz) 0 0 (va_A [(q0, .inr (7, [.ref q1, .ref q2, .ref q3, .ref q4, .ref q5, .ref q6, .int (nI mc), .int hc, .int ne, .int lo])), (q1, .inl (g 0, 64, .inl am)), (q5, .inl (g 0, 8, .inl ac))] sz) := by
  refine z_met (y := yX5_netThree) (cc := cX5_netThree) (nL := 6) (rm := { frames := 2, cells := 0, slots := 0, locals := 45 }) (D := D) (tys := gT g) (wr := []) (P0 := zNo) (As := [.ref q0, .int (nI x), .int (nI y), .int (nI z)]) (ww := [(q0, .inr (7, [.ref q1, .ref q2, .ref q3, .ref q4, .ref q5, .ref q6, .int (nI mc), .int hc, .int ne, .int lo])), (q1, .inl (g 0, 64, .inl am)), (q5, .inl (g 0, 8, .inl ac))]) (Qc := zQi D [(q0, .inr (7, [.ref q1, .ref q2, .ref q3, .ref q4, .ref q5, .ref q6, .int (nI mc), .int hc, .int ne, .int lo])), (q1, .inl (g 0, 64, .inl am)), (q5, .inl (g 0, 8, .inl ac))] (fun (r : Int32) (_ : Unit) => r = f_n3 am x y z) (fun _ => [(q0, .inr (7, [.ref q1, .ref q2, .ref q3, .ref q4, .ref q5, .ref q6, .int (nI mc), .int hc, .int (ne + 3 * f_n3 am x y z), .int lo])), (q1, .inl (g 0, 64, .inl (f_chA (f_chA (f_chA am x y (-(f_n3 am x y z))) y z (-(f_n3 am x y z))) z x (-(f_n3 am x y z))))), (q5, .inl (g 0, 8, .inl (f_chC (f_chC (f_chC ac x y (-(f_n3 am x y z))) y z (-(f_n3 am x y z))) z x (-(f_n3 am x y z)))))])) (ret := (some .int)) (by decide) rfl (Nat.le_of_ble_eq_true rfl) ?_ sz
  intro p e s m args below meth c A Q hA hQ F E hr hlk hin
  show zW p l e { frames := 2, cells := 0, slots := 0, locals := 45 } s m args below meth c 6 D A Q 0 0 [(q0, .inr (7, [.ref q1, .ref q2, .ref q3, .ref q4, .ref q5, .ref q6, .int (nI mc), .int hc, .int ne, .int lo])), (q1, .inl (g 0, 64, .inl am)), (q5, .inl (g 0, 8, .inl ac))] [(0, .ref q0), (1, .int (nI x)), (2, .int (nI y)), (3, .int (nI z))] [] 0
  refine z_aload_n F 0 dX5_netThree_0 rfl rfl ?_
  refine z_iload_n F 1 dX5_netThree_1 rfl rfl ?_
  refine z_iload_n F 2 dX5_netThree_2 rfl rfl ?_
  refine z_calli0 F (z_runV (st := []) F zNo_ok trivial (fun sz => c_X5_amountOwed l D g q0 q1 q2 q3 q4 q5 q6 am mc hc ne lo x y (by omega) (by omega) sz) (cwV 2 F.1.2.2.2.2 gX5_netThree_X5_amountOwed rfl rfl rfl (by decide +kernel) ⟨Nat.le_of_ble_eq_true rfl, Nat.le_of_ble_eq_true rfl⟩) 0 rfl rfl rfl [] [0, 1] rfl rfl (by decide) rfl rfl (Nat.le_of_ble_eq_true rfl) dX5_netThree_3 ⟨Nat.le_of_ble_eq_true rfl, Nat.le_of_ble_eq_true rfl⟩) (fun r2 _ hw1 => ?_)
  subst hw1
  refine z_aload_n F 0 dX5_netThree_6 rfl rfl ?_
  refine z_iload_n F 2 dX5_netThree_7 rfl rfl ?_
  refine z_iload_n F 3 dX5_netThree_8 rfl rfl ?_
  refine z_calli0 F (z_runV (st := [.int (am (8 * x + y))]) F zNo_ok trivial (fun sz => c_X5_amountOwed l D g q0 q1 q2 q3 q4 q5 q6 am mc hc ne lo y z (by omega) (by omega) sz) (cwV 2 F.1.2.2.2.2 gX5_netThree_X5_amountOwed rfl rfl rfl (by decide +kernel) ⟨Nat.le_of_ble_eq_true rfl, Nat.le_of_ble_eq_true rfl⟩) 0 rfl rfl rfl [] [0, 1] rfl rfl (by decide) rfl rfl (Nat.le_of_ble_eq_true rfl) dX5_netThree_9 ⟨Nat.le_of_ble_eq_true rfl, Nat.le_of_ble_eq_true rfl⟩) (fun r4 _ hw3 => ?_)
  subst hw3
  refine z_mmin F (List.mem_cons_of_mem _ (List.mem_append_left _ (List.mem_append_left _ (List.mem_of_getElem? (i := 0) rfl)))) (List.mem_cons_of_mem _ (List.mem_append_left _ (List.mem_append_left _ (List.mem_of_getElem? (i := 1) rfl)))) (List.mem_cons_of_mem _ (List.mem_append_left _ (List.mem_append_left _ (List.mem_of_getElem? (i := 2) rfl)))) (List.mem_cons_of_mem _ (List.mem_append_left _ (List.mem_append_left _ (List.mem_of_getElem? (i := 3) rfl)))) (Nat.le_of_ble_eq_true rfl) (Nat.le_of_ble_eq_true rfl) (Nat.le_of_ble_eq_true rfl) (Nat.le_of_ble_eq_true rfl) dX5_netThree_12 ?_
  refine z_istore (lv' := [(4, .int (z_min (am (8 * x + y)) (am (8 * y + z)))), (0, .ref q0), (1, .int (nI x)), (2, .int (nI y)), (3, .int (nI z))]) F dX5_netThree_15 (by decide) rfl ?_
  refine z_iload F 0 dX5_netThree_17 rfl ?_
  refine z_aload_n F 1 dX5_netThree_19 rfl rfl ?_
  refine z_iload_n F 4 dX5_netThree_20 rfl rfl ?_
  refine z_iload_n F 2 dX5_netThree_21 rfl rfl ?_
  refine z_calli0 F (z_runV (st := [.int (z_min (am (8 * x + y)) (am (8 * y + z)))]) F zNo_ok trivial (fun sz => c_X5_amountOwed l D g q0 q1 q2 q3 q4 q5 q6 am mc hc ne lo z x (by omega) (by omega) sz) (cwV 2 F.1.2.2.2.2 gX5_netThree_X5_amountOwed rfl rfl rfl (by decide +kernel) ⟨Nat.le_of_ble_eq_true rfl, Nat.le_of_ble_eq_true rfl⟩) 0 rfl rfl rfl [] [0, 1] rfl rfl (by decide) rfl rfl (Nat.le_of_ble_eq_true rfl) dX5_netThree_22 ⟨Nat.le_of_ble_eq_true rfl, Nat.le_of_ble_eq_true rfl⟩) (fun r6 _ hw5 => ?_)
  subst hw5
  refine z_mmin F (List.mem_cons_of_mem _ (List.mem_append_left _ (List.mem_append_left _ (List.mem_of_getElem? (i := 0) rfl)))) (List.mem_cons_of_mem _ (List.mem_append_left _ (List.mem_append_left _ (List.mem_of_getElem? (i := 1) rfl)))) (List.mem_cons_of_mem _ (List.mem_append_left _ (List.mem_append_left _ (List.mem_of_getElem? (i := 2) rfl)))) (List.mem_cons_of_mem _ (List.mem_append_left _ (List.mem_append_left _ (List.mem_of_getElem? (i := 3) rfl)))) (Nat.le_of_ble_eq_true rfl) (Nat.le_of_ble_eq_true rfl) (Nat.le_of_ble_eq_true rfl) (Nat.le_of_ble_eq_true rfl) dX5_netThree_25 ?_
  refine z_top (y := f_n3 am x y z) (rfl) ?_
  refine z_istore (lv' := [(5, .int (f_n3 am x y z)), (4, .int (z_min (am (8 * x + y)) (am (8 * y + z)))), (0, .ref q0), (1, .int (nI x)), (2, .int (nI y)), (3, .int (nI z))]) F dX5_netThree_28 (by decide) rfl ?_
  refine z_aload_n F 2 dX5_netThree_30 rfl rfl ?_
  refine z_iload_n F 3 dX5_netThree_31 rfl rfl ?_
  refine z_iload_n F 4 dX5_netThree_32 rfl rfl ?_
  refine z_iload F 0 dX5_netThree_33 rfl ?_
  refine z_ineg F dX5_netThree_35 ?_
  refine z_calli (wn := [(q0, .inr (7, [.ref q1, .ref q2, .ref q3, .ref q4, .ref q5, .ref q6, .int (nI mc), .int hc, .int ne, .int lo]))]) (wf := fun _ => [(q0, .inr (7, [.ref q1, .ref q2, .ref q3, .ref q4, .ref q5, .ref q6, .int (nI mc), .int hc, .int ne, .int lo])), (q1, .inl (g 0, 64, .inl (f_chA am x y (-(f_n3 am x y z))))), (q5, .inl (g 0, 8, .inl (f_chC ac x y (-(f_n3 am x y z)))))]) F (z_runV (st := []) F zNo_ok trivial (fun sz => c_X5_changeDebt l D g q0 q1 q2 q3 q4 q5 q6 am ac mc hc ne lo x y (-(f_n3 am x y z)) (by omega) (by omega) sz) (cwV 3 F.1.2.2.2.2 gX5_netThree_X5_changeDebt rfl rfl rfl (by decide +kernel) ⟨Nat.le_of_ble_eq_true rfl, Nat.le_of_ble_eq_true rfl⟩) 0 rfl rfl rfl [1, 2] [0] rfl rfl (by decide) rfl rfl (Nat.le_of_ble_eq_true rfl) dX5_netThree_36 ⟨Nat.le_of_ble_eq_true rfl, Nat.le_of_ble_eq_true rfl⟩) [1, 2] [0] [0, 1, 2] rfl rfl (by decide) (by decide) (by decide) (fun _ => rfl) (fun r8 _ hw7 => ?_)
  subst hw7
  refine z_pop F dX5_netThree_39 rfl ?_
  refine z_aload_n F 2 dX5_netThree_40 rfl rfl ?_
  refine z_iload_n F 4 dX5_netThree_41 rfl rfl ?_
  refine z_iload_n F 5 dX5_netThree_42 rfl rfl ?_
  refine z_iload F 0 dX5_netThree_43 rfl ?_
  refine z_ineg F dX5_netThree_45 ?_
  refine z_calli (wn := [(q0, .inr (7, [.ref q1, .ref q2, .ref q3, .ref q4, .ref q5, .ref q6, .int (nI mc), .int hc, .int ne, .int lo]))]) (wf := fun _ => [(q0, .inr (7, [.ref q1, .ref q2, .ref q3, .ref q4, .ref q5, .ref q6, .int (nI mc), .int hc, .int ne, .int lo])), (q1, .inl (g 0, 64, .inl (f_chA (f_chA am x y (-(f_n3 am x y z))) y z (-(f_n3 am x y z))))), (q5, .inl (g 0, 8, .inl (f_chC (f_chC ac x y (-(f_n3 am x y z))) y z (-(f_n3 am x y z)))))]) F (z_runV (st := []) F zNo_ok trivial (fun sz => c_X5_changeDebt l D g q0 q1 q2 q3 q4 q5 q6 (f_chA am x y (-(f_n3 am x y z))) (f_chC ac x y (-(f_n3 am x y z))) mc hc ne lo y z (-(f_n3 am x y z)) (by omega) (by omega) sz) (cwV 3 F.1.2.2.2.2 gX5_netThree_X5_changeDebt rfl rfl rfl (by decide +kernel) ⟨Nat.le_of_ble_eq_true rfl, Nat.le_of_ble_eq_true rfl⟩) 0 rfl rfl rfl [1, 2] [0] rfl rfl (by decide) rfl rfl (Nat.le_of_ble_eq_true rfl) dX5_netThree_46 ⟨Nat.le_of_ble_eq_true rfl, Nat.le_of_ble_eq_true rfl⟩) [1, 2] [0] [0, 1, 2] rfl rfl (by decide) (by decide) (by decide) (fun _ => rfl) (fun r10 _ hw9 => ?_)
  subst hw9
  refine z_pop F dX5_netThree_49 rfl ?_
  refine z_aload_n F 2 dX5_netThree_50 rfl rfl ?_
  refine z_iload_n F 5 dX5_netThree_51 rfl rfl ?_
  refine z_iload_n F 3 dX5_netThree_52 rfl rfl ?_
  refine z_iload F 0 dX5_netThree_53 rfl ?_
  refine z_ineg F dX5_netThree_55 ?_
  refine z_calli (wn := [(q0, .inr (7, [.ref q1, .ref q2, .ref q3, .ref q4, .ref q5, .ref q6, .int (nI mc), .int hc, .int ne, .int lo]))]) (wf := fun _ => [(q0, .inr (7, [.ref q1, .ref q2, .ref q3, .ref q4, .ref q5, .ref q6, .int (nI mc), .int hc, .int ne, .int lo])), (q1, .inl (g 0, 64, .inl (f_chA (f_chA (f_chA am x y (-(f_n3 am x y z))) y z (-(f_n3 am x y z))) z x (-(f_n3 am x y z))))), (q5, .inl (g 0, 8, .inl (f_chC (f_chC (f_chC ac x y (-(f_n3 am x y z))) y z (-(f_n3 am x y z))) z x (-(f_n3 am x y z)))))]) F (z_runV (st := []) F zNo_ok trivial (fun sz => c_X5_changeDebt l D g q0 q1 q2 q3 q4 q5 q6 (f_chA (f_chA am x y (-(f_n3 am x y z))) y z (-(f_n3 am x y z))) (f_chC (f_chC ac x y (-(f_n3 am x y z))) y z (-(f_n3 am x y z))) mc hc ne lo z x (-(f_n3 am x y z)) (by omega) (by omega) sz) (cwV 3 F.1.2.2.2.2 gX5_netThree_X5_changeDebt rfl rfl rfl (by decide +kernel) ⟨Nat.le_of_ble_eq_true rfl, Nat.le_of_ble_eq_true rfl⟩) 0 rfl rfl rfl [1, 2] [0] rfl rfl (by decide) rfl rfl (Nat.le_of_ble_eq_true rfl) dX5_netThree_56 ⟨Nat.le_of_ble_eq_true rfl, Nat.le_of_ble_eq_true rfl⟩) [1, 2] [0] [0, 1, 2] rfl rfl (by decide) (by decide) (by decide) (fun _ => rfl) (fun r12 _ hw11 => ?_)
  subst hw11
  refine z_pop F dX5_netThree_59 rfl ?_
  refine z_aload_n F 2 dX5_netThree_60 rfl rfl ?_
  refine z_dup F dX5_netThree_61 rfl ?_
  refine z_get (C := RX5) (T := TX5) (N := 10) F (fun w h => List.mem_cons_of_mem _ (List.mem_append_left _ (List.mem_append_right _ (h)))) 0 rfl rfl 8 (by decide) (List.mem_cons_of_mem _ (List.mem_append_left _ (List.mem_append_left _ (List.mem_of_getElem? (i := 4) rfl)))) rfl rfl dX5_netThree_62 ?_
  refine z_iconst (v := 3) F dX5_netThree_65 (by decide) ?_
  refine z_iload F 0 dX5_netThree_66 rfl ?_
  refine z_imul F dX5_netThree_68 ?_
  refine z_iadd F dX5_netThree_69 ?_
  refine z_put (C := RX5) (T := TX5) (N := 10) (ty := .int) (ws' := [(q0, .inr (7, [.ref q1, .ref q2, .ref q3, .ref q4, .ref q5, .ref q6, .int (nI mc), .int hc, .int (ne + (3 * (f_n3 am x y z))), .int lo])), (q1, .inl (g 0, 64, .inl (f_chA (f_chA (f_chA am x y (-(f_n3 am x y z))) y z (-(f_n3 am x y z))) z x (-(f_n3 am x y z))))), (q5, .inl (g 0, 8, .inl (f_chC (f_chC (f_chC ac x y (-(f_n3 am x y z))) y z (-(f_n3 am x y z))) z x (-(f_n3 am x y z)))))]) F (fun w h => List.mem_cons_of_mem _ (List.mem_append_left _ (List.mem_append_right _ (h)))) tyX5 tyX5_ok nmX5 0 rfl rfl 8 (by decide) (List.mem_cons_of_mem _ (List.mem_append_left _ (List.mem_append_left _ (List.mem_of_getElem? (i := 4) rfl)))) rfl rfl (by decide +kernel) (rfl) (rfl) (Nat.le_of_ble_eq_true rfl) rfl dX5_netThree_70 ?_
  refine z_iload F 0 dX5_netThree_73 rfl ?_
  exact z_iret F hA hQ hlk hr () (rfl) (rfl) dX5_netThree_75
set_option maxHeartbeats 4000000 in
set_option maxRecDepth 100000 in
theorem c_X5_addCollateral (l : Launch) (D : va_G) (g : Nat → ClassId) (q0 : Nat) (q1 : Nat) (q2 : Nat) (q3 : Nat) (q4 : Nat) (q5 : Nat) (q6 : Nat) (ca : Nat → Int32) (mc : Nat) (hc : Int32) (ne : Int32) (lo : Int32) (x : Nat) (v : Int32) (hx : x < 8) (sz : Nat) : Met l yX5_addCollateral wsX5_addCollateral { frames := 0, cells := 0, slots := 0, locals := 0 } (zPc D (gT g) zNo [.ref q0, .int (nI x), .int v] [(q3, .inl (g 0, 8, .inl ca))] [(q0, .inr (7, [.ref q1, .ref q2, .ref q3, .ref q4, .ref q5, .ref q6, .int (nI mc), .int hc, .int ne, .int lo]))] sz) (zQi D [(q3, .inl (g 0, 8, .inl ca))] (fun (r : Int32) (_ : Unit) => r = ca x + v) (fun _ => [(q3, .inl (g 0, 8, .inl (upd ca x (ca x + v))))]) sz) 0 0 (va_A [(q3, .inl (g 0, 8, .inl ca))] sz) := by
  refine z_met (y := yX5_addCollateral) (cc := cX5_addCollateral) (nL := 3) (rm := { frames := 0, cells := 0, slots := 0, locals := 0 }) (D := D) (tys := gT g) (wr := [(q0, .inr (7, [.ref q1, .ref q2, .ref q3, .ref q4, .ref q5, .ref q6, .int (nI mc), .int hc, .int ne, .int lo]))]) (P0 := zNo) (As := [.ref q0, .int (nI x), .int v]) (ww := [(q3, .inl (g 0, 8, .inl ca))]) (Qc := zQi D [(q3, .inl (g 0, 8, .inl ca))] (fun (r : Int32) (_ : Unit) => r = ca x + v) (fun _ => [(q3, .inl (g 0, 8, .inl (upd ca x (ca x + v))))])) (ret := (some .int)) (by decide) rfl (Nat.le_of_ble_eq_true rfl) ?_ sz
  intro p e s m args below meth c A Q hA hQ F E hr hlk hin
  show zW p l e { frames := 0, cells := 0, slots := 0, locals := 0 } s m args below meth c 3 D A Q 0 0 [(q3, .inl (g 0, 8, .inl ca))] [(0, .ref q0), (1, .int (nI x)), (2, .int v)] [] 0
  refine z_aload_n F 0 dX5_addCollateral_0 rfl rfl ?_
  refine z_get (C := RX5) (T := TX5) (N := 10) F (fun w h => List.mem_cons_of_mem _ (List.mem_append_left _ (List.mem_append_right _ (h)))) 1 rfl rfl 2 (by decide) (List.mem_cons_of_mem _ (List.mem_append_left _ (List.mem_append_left _ (List.mem_of_getElem? (i := 0) rfl)))) rfl rfl dX5_addCollateral_1 ?_
  refine z_iload_n F 1 dX5_addCollateral_4 rfl rfl ?_
  refine z_dup2 F dX5_addCollateral_5 rfl rfl ?_
  refine z_ialdN (j := x) F 0 0 rfl rfl (by omega) (by decide) dX5_addCollateral_6 ?_
  refine z_iload_n F 2 dX5_addCollateral_7 rfl rfl ?_
  refine z_iadd F dX5_addCollateral_8 ?_
  refine z_iastN (j := x) (ws' := [(q3, .inl (g 0, 8, .inl (upd ca x ((ca x) + v))))]) F 0 0 rfl rfl (by omega) (by decide) rfl dX5_addCollateral_9 ?_
  refine z_aload_n F 0 dX5_addCollateral_10 rfl rfl ?_
  refine z_get (C := RX5) (T := TX5) (N := 10) F (fun w h => List.mem_cons_of_mem _ (List.mem_append_left _ (List.mem_append_right _ (h)))) 1 rfl rfl 2 (by decide) (List.mem_cons_of_mem _ (List.mem_append_left _ (List.mem_append_left _ (List.mem_of_getElem? (i := 0) rfl)))) rfl rfl dX5_addCollateral_11 ?_
  refine z_iload_n F 1 dX5_addCollateral_14 rfl rfl ?_
  refine z_ialdN (j := x) F 0 0 rfl rfl (by omega) (by decide) dX5_addCollateral_15 ?_
  exact z_iret F hA hQ hlk hr () (pk_us) (rfl) dX5_addCollateral_16
set_option maxHeartbeats 4000000 in
set_option maxRecDepth 100000 in
theorem c_X5_exchangeLimit (l : Launch) (D : va_G) (g : Nat → ClassId) (q0 : Nat) (q1 : Nat) (q2 : Nat) (q3 : Nat) (q4 : Nat) (q5 : Nat) (q6 : Nat) (li : Nat → Int32) (mc : Nat) (hc : Int32) (ne : Int32) (lo : Int32) (x : Nat) (v : Int32) (hx : x < 8) (sz : Nat) : Met l yX5_exchangeLimit wsX5_exchangeLimit { frames := 0, cells := 0, slots := 0, locals := 0 } (zPc D (gT g) zNo [.ref q0, .int (nI x), .int v] [(q4, .inl (g 0, 8, .inl li))] [(q0, .inr (7, [.ref q1, .ref q2, .ref q3, .ref q4, .ref q5, .ref q6, .int (nI mc), .int hc, .int ne, .int lo]))] sz) (zQi D [(q4, .inl (g 0, 8, .inl li))] (fun (r : Int32) (_ : Unit) => r = li x) (fun _ => [(q4, .inl (g 0, 8, .inl (upd li x v)))]) sz) 0 0 (va_A [(q4, .inl (g 0, 8, .inl li))] sz) := by
  refine z_met (y := yX5_exchangeLimit) (cc := cX5_exchangeLimit) (nL := 4) (rm := { frames := 0, cells := 0, slots := 0, locals := 0 }) (D := D) (tys := gT g) (wr := [(q0, .inr (7, [.ref q1, .ref q2, .ref q3, .ref q4, .ref q5, .ref q6, .int (nI mc), .int hc, .int ne, .int lo]))]) (P0 := zNo) (As := [.ref q0, .int (nI x), .int v]) (ww := [(q4, .inl (g 0, 8, .inl li))]) (Qc := zQi D [(q4, .inl (g 0, 8, .inl li))] (fun (r : Int32) (_ : Unit) => r = li x) (fun _ => [(q4, .inl (g 0, 8, .inl (upd li x v)))])) (ret := (some .int)) (by decide) rfl (Nat.le_of_ble_eq_true rfl) ?_ sz
  intro p e s m args below meth c A Q hA hQ F E hr hlk hin
  show zW p l e { frames := 0, cells := 0, slots := 0, locals := 0 } s m args below meth c 4 D A Q 0 0 [(q4, .inl (g 0, 8, .inl li))] [(0, .ref q0), (1, .int (nI x)), (2, .int v)] [] 0
  refine z_aload_n F 0 dX5_exchangeLimit_0 rfl rfl ?_
  refine z_get (C := RX5) (T := TX5) (N := 10) F (fun w h => List.mem_cons_of_mem _ (List.mem_append_left _ (List.mem_append_right _ (h)))) 1 rfl rfl 3 (by decide) (List.mem_cons_of_mem _ (List.mem_append_left _ (List.mem_append_left _ (List.mem_of_getElem? (i := 0) rfl)))) rfl rfl dX5_exchangeLimit_1 ?_
  refine z_iload_n F 1 dX5_exchangeLimit_4 rfl rfl ?_
  refine z_ialdN (j := x) F 0 0 rfl rfl (by omega) (by decide) dX5_exchangeLimit_5 ?_
  refine z_istore_n (lv' := [(3, .int (li x)), (0, .ref q0), (1, .int (nI x)), (2, .int v)]) F dX5_exchangeLimit_6 rfl (by decide) rfl ?_
  refine z_aload_n F 1 dX5_exchangeLimit_7 rfl rfl ?_
  refine z_get (C := RX5) (T := TX5) (N := 10) F (fun w h => List.mem_cons_of_mem _ (List.mem_append_left _ (List.mem_append_right _ (h)))) 1 rfl rfl 3 (by decide) (List.mem_cons_of_mem _ (List.mem_append_left _ (List.mem_append_left _ (List.mem_of_getElem? (i := 0) rfl)))) rfl rfl dX5_exchangeLimit_8 ?_
  refine z_iload_n F 2 dX5_exchangeLimit_11 rfl rfl ?_
  refine z_iload_n F 3 dX5_exchangeLimit_12 rfl rfl ?_
  refine z_iastN (j := x) (ws' := [(q4, .inl (g 0, 8, .inl (upd li x v)))]) F 0 0 rfl rfl (by omega) (by decide) rfl dX5_exchangeLimit_13 ?_
  refine z_iload_n F 0 dX5_exchangeLimit_14 rfl rfl ?_
  exact z_iret F hA hQ hlk hr () (rfl) (rfl) dX5_exchangeLimit_15
set_option maxHeartbeats 4000000 in
set_option maxRecDepth 100000 in
theorem c_X5_exchangeHaircut (l : Launch) (D : va_G) (g : Nat → ClassId) (q0 : Nat) (q1 : Nat) (q2 : Nat) (q3 : Nat) (q4 : Nat) (q5 : Nat) (q6 : Nat) (mc : Nat) (hc : Int32) (ne : Int32) (lo : Int32) (v : Int32) (sz : Nat) : Met l yX5_exchangeHaircut wsX5_exchangeHaircut { frames := 0, cells := 0, slots := 0, locals := 0 } (zPc D (gT g) zNo [.ref q0, .int v] [(q0, .inr (7, [.ref q1, .ref q2, .ref q3, .ref q4, .ref q5, .ref q6, .int (nI mc), .int hc, .int ne, .int lo]))] [] sz) (zQi D [(q0, .inr (7, [.ref q1, .ref q2, .ref q3, .ref q4, .ref q5, .ref q6, .int (nI mc), .int hc, .int ne, .int lo]))] (fun (r : Int32) (_ : Unit) => r = hc) (fun _ => [(q0, .inr (7, [.ref q1, .ref q2, .ref q3, .ref q4, .ref q5, .ref q6, .int (nI mc), .int v, .int ne, .int lo]))]) sz) 0 0 (va_A [(q0, .inr (7, [.ref q1, .ref q2, .ref q3, .ref q4, .ref q5, .ref q6, .int (nI mc), .int hc, .int ne, .int lo]))] sz) := by
  refine z_met (y := yX5_exchangeHaircut) (cc := cX5_exchangeHaircut) (nL := 3) (rm := { frames := 0, cells := 0, slots := 0, locals := 0 }) (D := D) (tys := gT g) (wr := []) (P0 := zNo) (As := [.ref q0, .int v]) (ww := [(q0, .inr (7, [.ref q1, .ref q2, .ref q3, .ref q4, .ref q5, .ref q6, .int (nI mc), .int hc, .int ne, .int lo]))]) (Qc := zQi D [(q0, .inr (7, [.ref q1, .ref q2, .ref q3, .ref q4, .ref q5, .ref q6, .int (nI mc), .int hc, .int ne, .int lo]))] (fun (r : Int32) (_ : Unit) => r = hc) (fun _ => [(q0, .inr (7, [.ref q1, .ref q2, .ref q3, .ref q4, .ref q5, .ref q6, .int (nI mc), .int v, .int ne, .int lo]))])) (ret := (some .int)) (by decide) rfl (Nat.le_of_ble_eq_true rfl) ?_ sz
  intro p e s m args below meth c A Q hA hQ F E hr hlk hin
  show zW p l e { frames := 0, cells := 0, slots := 0, locals := 0 } s m args below meth c 3 D A Q 0 0 [(q0, .inr (7, [.ref q1, .ref q2, .ref q3, .ref q4, .ref q5, .ref q6, .int (nI mc), .int hc, .int ne, .int lo]))] [(0, .ref q0), (1, .int v)] [] 0
  refine z_aload_n F 0 dX5_exchangeHaircut_0 rfl rfl ?_
  refine z_get (C := RX5) (T := TX5) (N := 10) F (fun w h => List.mem_cons_of_mem _ (List.mem_append_right _ (h))) 0 rfl rfl 7 (by decide) (List.mem_cons_of_mem _ (List.mem_append_left _ (List.mem_of_getElem? (i := 0) rfl))) rfl rfl dX5_exchangeHaircut_1 ?_
  refine z_istore_n (lv' := [(2, .int hc), (0, .ref q0), (1, .int v)]) F dX5_exchangeHaircut_4 rfl (by decide) rfl ?_
  refine z_aload_n F 1 dX5_exchangeHaircut_5 rfl rfl ?_
  refine z_iload_n F 2 dX5_exchangeHaircut_6 rfl rfl ?_
  refine z_put (C := RX5) (T := TX5) (N := 10) (ty := .int) (ws' := [(q0, .inr (7, [.ref q1, .ref q2, .ref q3, .ref q4, .ref q5, .ref q6, .int (nI mc), .int v, .int ne, .int lo]))]) F (fun w h => List.mem_cons_of_mem _ (List.mem_append_right _ (h))) tyX5 tyX5_ok nmX5 0 rfl rfl 7 (by decide) (List.mem_cons_of_mem _ (List.mem_append_left _ (List.mem_of_getElem? (i := 0) rfl))) rfl rfl (by decide +kernel) (rfl) (rfl) (Nat.le_of_ble_eq_true rfl) rfl dX5_exchangeHaircut_7 ?_
  refine z_iload_n F 0 dX5_exchangeHaircut_10 rfl rfl ?_
  exact z_iret F hA hQ hlk hr () (rfl) (rfl) dX5_exchangeHaircut_11
set_option maxHeartbeats 4000000 in
set_option maxRecDepth 100000 in
theorem c_X5_forgiveDebts (l : Launch) (D : va_G) (g : Nat → ClassId) (q0 : Nat) (q1 : Nat) (q2 : Nat) (q3 : Nat) (q4 : Nat) (q5 : Nat) (q6 : Nat) (am : Nat → Int32) (ac : Nat → Int32) (mc : Nat) (hc : Int32) (ne : Int32) (lo : Int32) (x : Nat) (hx : x < 8) (sz : Nat) : Met l yX5_forgiveDebts wsX5_forgiveDebts { frames := 2, cells := 0, slots := 0, locals := 45 } (zPc D (gT g) zNo [.ref q0, .int (nI x)] [(q1, .inl (g 0, 64, .inl am)), (q5, .inl (g 0, 8, .inl ac))] [(q0, .inr (7, [.ref q1, .ref q2, .ref q3, .ref q4, .ref q5, .ref q6, .int (nI mc), .int hc, .int ne, .int lo]))] sz) (zQv D [(q1, .inl (g 0, 64, .inl am)), (q5, .inl (g 0, 8, .inl ac))] (fun (_ : Unit) => True) (fun _ => [(q1, .inl (g 0, 64, .inl ((f_fgN am ac x 8).1))), (q5, .inl (g 0, 8, .inl ((f_fgN am ac x 8).2)))]) sz) 0 0 (va_A [(q1, .inl (g 0, 64, .inl am)), (q5, .inl (g 0, 8, .inl ac))] sz) := by
  refine z_met (y := yX5_forgiveDebts) (cc := cX5_forgiveDebts) (nL := 3) (rm := { frames := 2, cells := 0, slots := 0, locals := 45 }) (D := D) (tys := gT g) (wr := [(q0, .inr (7, [.ref q1, .ref q2, .ref q3, .ref q4, .ref q5, .ref q6, .int (nI mc), .int hc, .int ne, .int lo]))]) (P0 := zNo) (As := [.ref q0, .int (nI x)]) (ww := [(q1, .inl (g 0, 64, .inl am)), (q5, .inl (g 0, 8, .inl ac))]) (Qc := zQv D [(q1, .inl (g 0, 64, .inl am)), (q5, .inl (g 0, 8, .inl ac))] (fun (_ : Unit) => True) (fun _ => [(q1, .inl (g 0, 64, .inl ((f_fgN am ac x 8).1))), (q5, .inl (g 0, 8, .inl ((f_fgN am ac x 8).2)))])) (ret := none) (by decide) rfl (Nat.le_of_ble_eq_true rfl) ?_ sz
  intro p e s m args below meth c A Q hA hQ F E hr hlk hin
  have L2 : ∀ (N2_ : Nat) (i : Nat) (am1 : Nat → Int32) (ac1 : Nat → Int32) (hN2_ : 8 - i < N2_) (hi : i ≤ 8) (hv : (am1, ac1) = f_fgN am ac x i), zW p l e { frames := 2, cells := 0, slots := 0, locals := 45 } s m args below meth c 3 D A Q 0 0 [(q1, .inl (g 0, 64, .inl am1)), (q5, .inl (g 0, 8, .inl ac1))] [(0, .ref q0), (1, .int (nI x)), (2, .int (nI i))] [] 2 := by
    intro N2_
    induction N2_ with
    | zero =>
      intro i am1 ac1 hN2_
      exact absurd hN2_ (Nat.not_lt_zero _)
    | succ N2_ ih2 =>
      intro i am1 ac1 hN2_ hi hv
      refine z_iload_n F 2 dX5_forgiveDebts_2 rfl rfl ?_
      refine z_bipush (v := 8) F dX5_forgiveDebts_3 (by decide) ?_
      refine z_icmp_ge (tgt := 28) F dX5_forgiveDebts_5 (by decide) (fun c1 => ?_) (fun c1 => ?_)
      · have hi8 : i = 8 := by have := z_ge (by omega) (by decide) (show nI 8 ≤ nI i from c1); omega
        exact z_vret F hA hQ hlk hr () (trivial) (by rw [hi8] at hv; rw [← hv]) dX5_forgiveDebts_28
      · have hi8 : i < 8 := z_lt (by omega) (by decide) c1
        refine z_aload_n F 0 dX5_forgiveDebts_8 rfl rfl ?_
        refine z_iload_n F 1 dX5_forgiveDebts_9 rfl rfl ?_
        refine z_iload_n F 2 dX5_forgiveDebts_10 rfl rfl ?_
        refine z_aload_n F 0 dX5_forgiveDebts_11 rfl rfl ?_
        refine z_iload_n F 1 dX5_forgiveDebts_12 rfl rfl ?_
        refine z_iload_n F 2 dX5_forgiveDebts_13 rfl rfl ?_
        refine z_calli0 F (z_runV (st := [.int (nI i), .int (nI x), .ref q0]) F zNo_ok trivial (fun sz => c_X5_amountOwed l D g q0 q1 q2 q3 q4 q5 q6 am1 mc hc ne lo x i (by omega) (by omega) sz) (cwV 2 F.1.2.2.2.2 gX5_forgiveDebts_X5_amountOwed rfl rfl rfl (by decide +kernel) ⟨Nat.le_of_ble_eq_true rfl, Nat.le_of_ble_eq_true rfl⟩) 2 rfl rfl rfl [] [2, 0] rfl rfl (by decide) rfl rfl (Nat.le_of_ble_eq_true rfl) dX5_forgiveDebts_14 ⟨Nat.le_of_ble_eq_true rfl, Nat.le_of_ble_eq_true rfl⟩) (fun r3 _ hw2 => ?_)
        subst hw2
        refine z_ineg F dX5_forgiveDebts_17 ?_
        refine z_calli (wn := []) (wf := fun _ => [(q1, .inl (g 0, 64, .inl (f_chA am1 x i (-(am1 (8 * x + i)))))), (q5, .inl (g 0, 8, .inl (f_chC ac1 x i (-(am1 (8 * x + i))))))]) F (z_runV (st := []) F zNo_ok trivial (fun sz => c_X5_changeDebt l D g q0 q1 q2 q3 q4 q5 q6 am1 ac1 mc hc ne lo x i (-(am1 (8 * x + i))) (by omega) (by omega) sz) (cwV 3 F.1.2.2.2.2 gX5_forgiveDebts_X5_changeDebt rfl rfl rfl (by decide +kernel) ⟨Nat.le_of_ble_eq_true rfl, Nat.le_of_ble_eq_true rfl⟩) 2 rfl rfl rfl [0, 1] [2] rfl rfl (by decide) rfl rfl (Nat.le_of_ble_eq_true rfl) dX5_forgiveDebts_18 ⟨Nat.le_of_ble_eq_true rfl, Nat.le_of_ble_eq_true rfl⟩) [0, 1] [] [0, 1] rfl rfl (by decide) (by decide) (by decide) (fun _ => rfl) (fun r5 _ hw4 => ?_)
        subst hw4
        refine z_pop F dX5_forgiveDebts_21 rfl ?_
        refine z_iinc (v := nI (i + 1)) (lv' := [(2, .int (nI (i + 1))), (0, .ref q0), (1, .int (nI x))]) F dX5_forgiveDebts_22 2 rfl (nI_1 i) (by decide) rfl ?_
        refine z_goto (tgt := 2) F dX5_forgiveDebts_25 (by decide) ?_
        refine z_loc (lv' := [(0, .ref q0), (1, .int (nI x)), (2, .int (nI (i + 1)))]) [1, 2, 0] rfl ?_
        exact ih2 (i + 1) (f_chA am1 x i (-(am1 (8 * x + i)))) (f_chC ac1 x i (-(am1 (8 * x + i)))) (by omega) (by omega) (by first | rfl | (simp only [f_fgN, ← hv]))
  show zW p l e { frames := 2, cells := 0, slots := 0, locals := 45 } s m args below meth c 3 D A Q 0 0 [(q1, .inl (g 0, 64, .inl am)), (q5, .inl (g 0, 8, .inl ac))] [(0, .ref q0), (1, .int (nI x))] [] 0
  refine z_iconst (v := 0) F dX5_forgiveDebts_0 (by decide) ?_
  refine z_istore_n (lv' := [(2, .int 0), (0, .ref q0), (1, .int (nI x))]) F dX5_forgiveDebts_1 rfl (by decide) rfl ?_
  refine z_loc (lv' := [(0, .ref q0), (1, .int (nI x)), (2, .int (nI 0))]) [1, 2, 0] rfl ?_
  exact L2 _ 0 am ac (Nat.lt_succ_self _) (by omega) (by first | rfl | (simp only [f_fgN, ← hv]))
