/-! RULES -/
def z_n (v : Int32) : Nat := v.toNatClampNeg
theorem z_nn {x : Nat} (h : x < 8) : z_n (nI x) = x := nI_clamp (by omega)
def f_onMember (mc : Nat) (v : Int32) : Nat := if f_has mc v = 0 then 1 else 0
def f_onPair (mc : Nat) (v w : Int32) : Nat := if f_has mc v = 0 then 1 else if f_has mc w = 0 then 1 else if v = w then 2 else 0
def f_onJoin (mc : Nat) : Nat := if (8 : Int32) ≤ nI mc then 3 else 0
def f_isAm (u : Int32) : Int32 := if u < 1 then 0 else if 99 < u then 0 else 1
def f_onPA (mc : Nat) (v w u : Int32) : Nat := if f_onPair mc v w = 0 then (if f_isAm u = 0 then 2 else 0) else f_onPair mc v w
def f_onDebt (mc : Nat) (am li de : Nat → Int32) (v w u : Int32) : Nat := if f_onPA mc v w u = 0 then (if de (z_n v) = 0 then (if f_debit am (z_n v) + u ≤ li (z_n v) then 0 else 4) else 3) else f_onPA mc v w u
def f_onPay (mc : Nat) (am co : Nat → Int32) (v w u : Int32) : Nat := if f_onPA mc v w u = 0 then (if u ≤ am (8 * z_n v + z_n w) then (if u ≤ co (z_n v) then 0 else 4) else 3) else f_onPA mc v w u
def f_onTri (mc : Nat) (am : Nat → Int32) (v w u : Int32) : Nat := if f_has mc v = 0 then 1 else if f_has mc w = 0 then 1 else if f_has mc u = 0 then 1 else if v = w then 2 else if w = u then 2 else if u = v then 2 else if am (8 * z_n v + z_n w) ≤ 0 then 3 else if am (8 * z_n w + z_n u) ≤ 0 then 3 else if am (8 * z_n u + z_n v) ≤ 0 then 3 else 0
def f_onPl (mc : Nat) (ca : Nat → Int32) (v u : Int32) : Nat := if f_has mc v = 0 then 1 else if f_isAm u = 0 then 2 else if ca (z_n v) + u ≤ 99 then 0 else 3
def f_onLi (mc : Nat) (am : Nat → Int32) (v u : Int32) : Nat := if f_has mc v = 0 then 1 else if u < 0 then 2 else if u ≤ 500 then (if f_debit am (z_n v) ≤ u then 0 else 3) else 2
def f_onHc (u : Int32) : Nat := if u < 0 then 2 else if u ≤ 90 then 0 else 2
def f_onDf (mc : Nat) (am co ca de : Nat → Int32) (hc v : Int32) : Nat := if f_has mc v = 0 then 1 else if de (z_n v) = 0 then (if f_loss am co ca hc (z_n v) ≤ 0 then 3 else 0) else 3
theorem z_has {mc : Nat} {v : Int32} (h : ¬ f_has mc v = 0) (hm : mc ≤ 8) : ∃ x, x < mc ∧ v = nI x := by
  unfold f_has at h
  split at h
  · exact absurd rfl h
  · split at h
    · exact absurd rfl h
    · next h1 h2 =>
      rcases pk_ix v (n := mc) (by omega) with q | q | ⟨j, q1, q2⟩
      · exact absurd q h1
      · exact absurd q h2
      · exact ⟨j, q1, q2⟩
theorem z_hasN {mc x : Nat} (h : x < mc) (hm : mc ≤ 8) : f_has mc (nI x) = 1 := by
  unfold f_has
  rw [if_neg (nI_pos (by omega)), if_neg (nI_ge h (by omega))]
theorem f_onPair_lt (mc : Nat) (v w : Int32) : f_onPair mc v w < 5 := by unfold f_onPair; split <;> (try split) <;> (try split) <;> omega
theorem f_onPA_lt (mc : Nat) (v w u : Int32) : f_onPA mc v w u < 5 := by
  have := f_onPair_lt mc v w
  unfold f_onPA; split <;> (try split) <;> omega
theorem z_onPair {mc : Nat} {v w : Int32} (h : f_onPair mc v w = 0) (hm : mc ≤ 8) : ∃ x y, x < mc ∧ y < mc ∧ x ≠ y ∧ v = nI x ∧ w = nI y := by
  unfold f_onPair at h
  split at h
  · omega
  · next h1 =>
    split at h
    · omega
    · next h2 =>
      split at h
      · omega
      · next h3 =>
        obtain ⟨x, hx, rfl⟩ := z_has h1 hm
        obtain ⟨y, hy, rfl⟩ := z_has h2 hm
        exact ⟨x, y, hx, hy, fun q => h3 (by rw [q]), rfl, rfl⟩
theorem z_onPA {mc : Nat} {v w u : Int32} (h : f_onPA mc v w u = 0) (hm : mc ≤ 8) : ∃ x y, x < mc ∧ y < mc ∧ x ≠ y ∧ v = nI x ∧ w = nI y ∧ ¬ f_isAm u = 0 := by
  unfold f_onPA at h
  split at h
  · next h1 =>
    split at h
    · omega
    · next h2 =>
      obtain ⟨x, y, a, b, c, d, e⟩ := z_onPair h1 hm
      exact ⟨x, y, a, b, c, d, e, h2⟩
  · next h1 => exact absurd h h1
set_option maxHeartbeats 4000000 in
set_option maxRecDepth 100000 in
theorem c_X9_onMember (l : Launch) (D : va_G) (g : Nat → ClassId) (er : Nat → Nat) (q0 : Nat) (q1 : Nat) (q2 : Nat) (q3 : Nat) (q4 : Nat) (q5 : Nat) (q6 : Nat) (mc : Nat) (hc : Int32) (ne : Int32) (lo : Int32) (v : Int32) (sz : Nat) : Met l yX9_onMember wsX9_onMember { frames := 1, cells := 0, slots := 0, locals := 21 } (zPc D (gT g) (zEnv er) [.ref q0, .int v] [] [(q0, .inr (7, [.ref q1, .ref q2, .ref q3, .ref q4, .ref q5, .ref q6, .int (nI mc), .int hc, .int ne, .int lo]))] sz) (zQe er D [] (fun (r : Option Nat) (_ : Unit) => r = some (f_onMember mc v)) (fun _ => []) sz) 0 0 (va_A [] sz) := by
  refine z_met (y := yX9_onMember) (cc := cX9_onMember) (nL := 2) (rm := { frames := 1, cells := 0, slots := 0, locals := 21 }) (D := D) (tys := gT g) (wr := [(q0, .inr (7, [.ref q1, .ref q2, .ref q3, .ref q4, .ref q5, .ref q6, .int (nI mc), .int hc, .int ne, .int lo]))]) (P0 := zEnv er) (As := [.ref q0, .int v]) (ww := []) (Qc := zQe er D [] (fun (r : Option Nat) (_ : Unit) => r = some (f_onMember mc v)) (fun _ => [])) (ret := (some (.object "DebtClearing$Refusal"))) (by decide) rfl (Nat.le_of_ble_eq_true rfl) ?_ sz
  intro p e s m args below meth c A Q hA hQ F E hr hlk hin
  show zW p l e { frames := 1, cells := 0, slots := 0, locals := 21 } s m args below meth c 2 D A Q 0 0 [] [(0, .ref q0), (1, .int v)] [] 0
  refine z_aload_n F 0 dX9_onMember_0 rfl rfl ?_
  refine z_iload_n F 1 dX9_onMember_1 rfl rfl ?_
  refine z_calli0 F (z_runV (st := []) F zNo_ok trivial (fun sz => c_X5_hasMember l D g q0 q1 q2 q3 q4 q5 q6 mc hc ne lo v sz) (cwV 1 F.1.2.2.2.2 gX9_onMember_X5_hasMember rfl rfl rfl (by decide +kernel) ⟨Nat.le_of_ble_eq_true rfl, Nat.le_of_ble_eq_true rfl⟩) 0 rfl rfl rfl [] [0] rfl rfl (by decide) rfl rfl (Nat.le_of_ble_eq_true rfl) dX9_onMember_2 ⟨Nat.le_of_ble_eq_true rfl, Nat.le_of_ble_eq_true rfl⟩) (fun r2 _ hw1 => ?_)
  subst hw1
  refine z_if_eq (tgt := 14) F dX9_onMember_5 (by decide) (fun c3 => ?_) (fun c3 => ?_)
  · refine z_getsE F (zEnv.ref E) 1 (by decide) rfl (List.mem_cons_of_mem _ (List.mem_append_left _ (List.mem_of_getElem? (i := 1) rfl))) dX9_onMember_14 ?_
    exact z_eret F hA hQ hlk hr (v := some 1) rfl () (by simp only [f_onMember, if_pos c3]) (rfl) dX9_onMember_17
  · refine z_getsE F (zEnv.ref E) 0 (by decide) rfl (List.mem_cons_of_mem _ (List.mem_append_left _ (List.mem_of_getElem? (i := 0) rfl))) dX9_onMember_8 ?_
    refine z_goto (tgt := 17) F dX9_onMember_11 (by decide) ?_
    exact z_eret F hA hQ hlk hr (v := some 0) rfl () (by simp only [f_onMember, if_neg c3]) (rfl) dX9_onMember_17
set_option maxHeartbeats 4000000 in
set_option maxRecDepth 100000 in
theorem c_X9_onPair (l : Launch) (D : va_G) (g : Nat → ClassId) (er : Nat → Nat) (q0 : Nat) (q1 : Nat) (q2 : Nat) (q3 : Nat) (q4 : Nat) (q5 : Nat) (q6 : Nat) (mc : Nat) (hc : Int32) (ne : Int32) (lo : Int32) (v : Int32) (w : Int32) (sz : Nat) : Met l yX9_onPair wsX9_onPair { frames := 1, cells := 0, slots := 0, locals := 21 } (zPc D (gT g) (zEnv er) [.ref q0, .int v, .int w] [] [(q0, .inr (7, [.ref q1, .ref q2, .ref q3, .ref q4, .ref q5, .ref q6, .int (nI mc), .int hc, .int ne, .int lo]))] sz) (zQe er D [] (fun (r : Option Nat) (_ : Unit) => r = some (f_onPair mc v w)) (fun _ => []) sz) 0 0 (va_A [] sz) := by
  refine z_met (y := yX9_onPair) (cc := cX9_onPair) (nL := 3) (rm := { frames := 1, cells := 0, slots := 0, locals := 21 }) (D := D) (tys := gT g) (wr := [(q0, .inr (7, [.ref q1, .ref q2, .ref q3, .ref q4, .ref q5, .ref q6, .int (nI mc), .int hc, .int ne, .int lo]))]) (P0 := zEnv er) (As := [.ref q0, .int v, .int w]) (ww := []) (Qc := zQe er D [] (fun (r : Option Nat) (_ : Unit) => r = some (f_onPair mc v w)) (fun _ => [])) (ret := (some (.object "DebtClearing$Refusal"))) (by decide) rfl (Nat.le_of_ble_eq_true rfl) ?_ sz
  intro p e s m args below meth c A Q hA hQ F E hr hlk hin
  show zW p l e { frames := 1, cells := 0, slots := 0, locals := 21 } s m args below meth c 3 D A Q 0 0 [] [(0, .ref q0), (1, .int v), (2, .int w)] [] 0
  refine z_aload_n F 0 dX9_onPair_0 rfl rfl ?_
  refine z_iload_n F 1 dX9_onPair_1 rfl rfl ?_
  refine z_calli0 F (z_runV (st := []) F zNo_ok trivial (fun sz => c_X5_hasMember l D g q0 q1 q2 q3 q4 q5 q6 mc hc ne lo v sz) (cwV 1 F.1.2.2.2.2 gX9_onPair_X5_hasMember rfl rfl rfl (by decide +kernel) ⟨Nat.le_of_ble_eq_true rfl, Nat.le_of_ble_eq_true rfl⟩) 0 rfl rfl rfl [] [0] rfl rfl (by decide) rfl rfl (Nat.le_of_ble_eq_true rfl) dX9_onPair_2 ⟨Nat.le_of_ble_eq_true rfl, Nat.le_of_ble_eq_true rfl⟩) (fun r2 _ hw1 => ?_)
  subst hw1
  refine z_if_eq (tgt := 16) F dX9_onPair_5 (by decide) (fun c3 => ?_) (fun c3 => ?_)
  · refine z_getsE F (zEnv.ref E) 1 (by decide) rfl (List.mem_cons_of_mem _ (List.mem_append_left _ (List.mem_of_getElem? (i := 0) rfl))) dX9_onPair_16 ?_
    exact z_eret F hA hQ hlk hr (v := some 1) rfl () (by simp only [f_onPair, if_pos c3]) (rfl) dX9_onPair_19
  · refine z_aload_n F 0 dX9_onPair_8 rfl rfl ?_
    refine z_iload_n F 2 dX9_onPair_9 rfl rfl ?_
    refine z_calli0 F (z_runV (st := []) F zNo_ok trivial (fun sz => c_X5_hasMember l D g q0 q1 q2 q3 q4 q5 q6 mc hc ne lo w sz) (cwV 1 F.1.2.2.2.2 gX9_onPair_X5_hasMember rfl rfl rfl (by decide +kernel) ⟨Nat.le_of_ble_eq_true rfl, Nat.le_of_ble_eq_true rfl⟩) 0 rfl rfl rfl [] [0] rfl rfl (by decide) rfl rfl (Nat.le_of_ble_eq_true rfl) dX9_onPair_10 ⟨Nat.le_of_ble_eq_true rfl, Nat.le_of_ble_eq_true rfl⟩) (fun r5 _ hw4 => ?_)
    subst hw4
    refine z_if_ne (tgt := 20) F dX9_onPair_13 (by decide) (fun c6 => ?_) (fun c6 => ?_)
    · refine z_iload_n F 1 dX9_onPair_20 rfl rfl ?_
      refine z_iload_n F 2 dX9_onPair_21 rfl rfl ?_
      refine z_icmp_ne (tgt := 31) F dX9_onPair_22 (by decide) (fun c7 => ?_) (fun c7 => ?_)
      · refine z_getsE F (zEnv.ref E) 0 (by decide) rfl (List.mem_cons_of_mem _ (List.mem_append_left _ (List.mem_of_getElem? (i := 2) rfl))) dX9_onPair_31 ?_
        exact z_eret F hA hQ hlk hr (v := some 0) rfl () (by simp only [f_onPair, if_neg c3, if_neg c6, if_neg c7]) (rfl) dX9_onPair_34
      · refine z_getsE F (zEnv.ref E) 2 (by decide) rfl (List.mem_cons_of_mem _ (List.mem_append_left _ (List.mem_of_getElem? (i := 1) rfl))) dX9_onPair_25 ?_
        refine z_goto (tgt := 34) F dX9_onPair_28 (by decide) ?_
        exact z_eret F hA hQ hlk hr (v := some 2) rfl () (by simp only [f_onPair, if_neg c3, if_neg c6, if_pos c7]) (rfl) dX9_onPair_34
    · refine z_getsE F (zEnv.ref E) 1 (by decide) rfl (List.mem_cons_of_mem _ (List.mem_append_left _ (List.mem_of_getElem? (i := 0) rfl))) dX9_onPair_16 ?_
      exact z_eret F hA hQ hlk hr (v := some 1) rfl () (by simp only [f_onPair, if_neg c3, if_pos c6]) (rfl) dX9_onPair_19
set_option maxHeartbeats 4000000 in
set_option maxRecDepth 100000 in
theorem c_X9_onJoining (l : Launch) (D : va_G) (g : Nat → ClassId) (er : Nat → Nat) (q0 : Nat) (q1 : Nat) (q2 : Nat) (q3 : Nat) (q4 : Nat) (q5 : Nat) (q6 : Nat) (mc : Nat) (hc : Int32) (ne : Int32) (lo : Int32) (sz : Nat) : Met l yX9_onJoining wsX9_onJoining { frames := 0, cells := 0, slots := 0, locals := 0 } (zPc D (gT g) (zEnv er) [.ref q0] [] [(q0, .inr (7, [.ref q1, .ref q2, .ref q3, .ref q4, .ref q5, .ref q6, .int (nI mc), .int hc, .int ne, .int lo]))] sz) (zQe er D [] (fun (r : Option Nat) (_ : Unit) => r = some (f_onJoin mc)) (fun _ => []) sz) 0 0 (va_A [] sz) := by
  refine z_met (y := yX9_onJoining) (cc := cX9_onJoining) (nL := 1) (rm := { frames := 0, cells := 0, slots := 0, locals := 0 }) (D := D) (tys := gT g) (wr := [(q0, .inr (7, [.ref q1, .ref q2, .ref q3, .ref q4, .ref q5, .ref q6, .int (nI mc), .int hc, .int ne, .int lo]))]) (P0 := zEnv er) (As := [.ref q0]) (ww := []) (Qc := zQe er D [] (fun (r : Option Nat) (_ : Unit) => r = some (f_onJoin mc)) (fun _ => [])) (ret := (some (.object "DebtClearing$Refusal"))) (by decide) rfl (Nat.le_of_ble_eq_true rfl) ?_ sz
  intro p e s m args below meth c A Q hA hQ F E hr hlk hin
  show zW p l e { frames := 0, cells := 0, slots := 0, locals := 0 } s m args below meth c 1 D A Q 0 0 [] [(0, .ref q0)] [] 0
  refine z_aload_n F 0 dX9_onJoining_0 rfl rfl ?_
  refine z_getN (C := RX5) (T := TX5) (N := 10) F (fun w h => List.mem_cons_of_mem _ (List.mem_append_right _ (h))) 0 rfl rfl 6 (by decide) (zEnv.nf E 13 rfl) rfl rfl dX9_onJoining_1 ?_
  refine z_bipush (v := 8) F dX9_onJoining_4 (by decide) ?_
  refine z_icmp_ge (tgt := 15) F dX9_onJoining_6 (by decide) (fun c1 => ?_) (fun c1 => ?_)
  · refine z_getsE F (zEnv.ref E) 3 (by decide) rfl (List.mem_cons_of_mem _ (List.mem_append_left _ (List.mem_of_getElem? (i := 1) rfl))) dX9_onJoining_15 ?_
    exact z_eret F hA hQ hlk hr (v := some 3) rfl () (by simp only [f_onJoin, if_pos c1]) (rfl) dX9_onJoining_18
  · refine z_getsE F (zEnv.ref E) 0 (by decide) rfl (List.mem_cons_of_mem _ (List.mem_append_left _ (List.mem_of_getElem? (i := 0) rfl))) dX9_onJoining_9 ?_
    refine z_goto (tgt := 18) F dX9_onJoining_12 (by decide) ?_
    exact z_eret F hA hQ hlk hr (v := some 0) rfl () (by simp only [f_onJoin, if_neg c1]) (rfl) dX9_onJoining_18
set_option maxHeartbeats 4000000 in
set_option maxRecDepth 100000 in
theorem c_X9_isAmount (l : Launch) (D : va_G) (g : Nat → ClassId) (u : Int32) (sz : Nat) : Met l yX9_isAmount wsX9_isAmount { frames := 0, cells := 0, slots := 0, locals := 0 } (zPc D (gT g) zNo [.int u] [] [] sz) (zQi D [] (fun (r : Int32) (_ : Unit) => r = f_isAm u) (fun _ => []) sz) 0 0 (va_A [] sz) := by
  refine z_met (y := yX9_isAmount) (cc := cX9_isAmount) (nL := 1) (rm := { frames := 0, cells := 0, slots := 0, locals := 0 }) (D := D) (tys := gT g) (wr := []) (P0 := zNo) (As := [.int u]) (ww := []) (Qc := zQi D [] (fun (r : Int32) (_ : Unit) => r = f_isAm u) (fun _ => [])) (ret := (some .boolean)) (by decide) rfl (Nat.le_of_ble_eq_true rfl) ?_ sz
  intro p e s m args below meth c A Q hA hQ F E hr hlk hin
  show zW p l e { frames := 0, cells := 0, slots := 0, locals := 0 } s m args below meth c 1 D A Q 0 0 [] [(0, .int u)] [] 0
  refine z_iload_n F 0 dX9_isAmount_0 rfl rfl ?_
  refine z_iconst (v := 1) F dX9_isAmount_1 (by decide) ?_
  refine z_icmp_lt (tgt := 15) F dX9_isAmount_2 (by decide) (fun c1 => ?_) (fun c1 => ?_)
  · refine z_iconst (v := 0) F dX9_isAmount_15 (by decide) ?_
    exact z_zret F hA hQ hlk hr (rfl) () (by simp only [f_isAm, if_pos c1]) (rfl) dX9_isAmount_16
  · refine z_iload_n F 0 dX9_isAmount_5 rfl rfl ?_
    refine z_bipush (v := 99) F dX9_isAmount_6 (by decide) ?_
    refine z_icmp_gt (tgt := 15) F dX9_isAmount_8 (by decide) (fun c2 => ?_) (fun c2 => ?_)
    · refine z_iconst (v := 0) F dX9_isAmount_15 (by decide) ?_
      exact z_zret F hA hQ hlk hr (rfl) () (by simp only [f_isAm, if_neg c1, if_pos c2]) (rfl) dX9_isAmount_16
    · refine z_iconst (v := 1) F dX9_isAmount_11 (by decide) ?_
      refine z_goto (tgt := 16) F dX9_isAmount_12 (by decide) ?_
      exact z_zret F hA hQ hlk hr (rfl) () (by simp only [f_isAm, if_neg c1, if_neg c2]) (rfl) dX9_isAmount_16
set_option maxHeartbeats 4000000 in
set_option maxRecDepth 100000 in
theorem c_X9_onPairAndAmount (l : Launch) (D : va_G) (g : Nat → ClassId) (er : Nat → Nat) (q0 : Nat) (q1 : Nat) (q2 : Nat) (q3 : Nat) (q4 : Nat) (q5 : Nat) (q6 : Nat) (mc : Nat) (hc : Int32) (ne : Int32) (lo : Int32) (v : Int32) (w : Int32) (u : Int32) (sz : Nat) : Met l yX9_onPairAndAmount wsX9_onPairAndAmount { frames := 2, cells := 0, slots := 0, locals := 43 } (zPc D (gT g) (zEnv er) [.ref q0, .int v, .int w, .int u] [] [(q0, .inr (7, [.ref q1, .ref q2, .ref q3, .ref q4, .ref q5, .ref q6, .int (nI mc), .int hc, .int ne, .int lo]))] sz) (zQe er D [] (fun (r : Option Nat) (_ : Unit) => r = some (f_onPA mc v w u)) (fun _ => []) sz) 0 0 (va_A [] sz) := by
  refine z_met (y := yX9_onPairAndAmount) (cc := cX9_onPairAndAmount) (nL := 5) (rm := { frames := 2, cells := 0, slots := 0, locals := 43 }) (D := D) (tys := gT g) (wr := [(q0, .inr (7, [.ref q1, .ref q2, .ref q3, .ref q4, .ref q5, .ref q6, .int (nI mc), .int hc, .int ne, .int lo]))]) (P0 := zEnv er) (As := [.ref q0, .int v, .int w, .int u]) (ww := []) (Qc := zQe er D [] (fun (r : Option Nat) (_ : Unit) => r = some (f_onPA mc v w u)) (fun _ => [])) (ret := (some (.object "DebtClearing$Refusal"))) (by decide) rfl (Nat.le_of_ble_eq_true rfl) ?_ sz
  intro p e s m args below meth c A Q hA hQ F E hr hlk hin
  show zW p l e { frames := 2, cells := 0, slots := 0, locals := 43 } s m args below meth c 5 D A Q 0 0 [] [(0, .ref q0), (1, .int v), (2, .int w), (3, .int u)] [] 0
  refine z_aload_n F 0 dX9_onPairAndAmount_0 rfl rfl ?_
  refine z_iload_n F 1 dX9_onPairAndAmount_1 rfl rfl ?_
  refine z_iload_n F 2 dX9_onPairAndAmount_2 rfl rfl ?_
  refine z_calle0 F (z_runS (st := []) F (zEnv_ok er) E (fun sz => c_X9_onPair l D g er q0 q1 q2 q3 q4 q5 q6 mc hc ne lo v w sz) (va_cwS 3 F.1.2.2.2.2 gX9_onPairAndAmount_X9_onPair rfl rfl rfl (by decide +kernel) ⟨Nat.le_of_ble_eq_true rfl, Nat.le_of_ble_eq_true rfl⟩) [] [0] rfl rfl (by decide) rfl rfl (Nat.le_of_ble_eq_true rfl) dX9_onPairAndAmount_3 ⟨Nat.le_of_ble_eq_true rfl, Nat.le_of_ble_eq_true rfl⟩) (fun r2 _ hw1 => ?_)
  subst hw1
  refine z_st (st' := [.ref (er (f_onPair mc v w))]) rfl ?_
  refine z_astore (lv' := [(4, .ref (er (f_onPair mc v w))), (0, .ref q0), (1, .int v), (2, .int w), (3, .int u)]) F dX9_onPairAndAmount_6 (by decide) rfl ?_
  refine z_aload F 0 dX9_onPairAndAmount_8 rfl ?_
  refine z_getsE F (zEnv.ref E) 0 (by decide) rfl (List.mem_cons_of_mem _ (List.mem_append_left _ (List.mem_of_getElem? (i := 0) rfl))) dX9_onPairAndAmount_10 ?_
  refine z_acmp_eq (tgt := 19) F dX9_onPairAndAmount_13 (by decide) (fun c3 => ?_) (fun c3 => ?_)
  · have hz : f_onPair mc v w = 0 := z_er (zEnv.ref E) c3 (f_onPair_lt mc v w) (by decide)
    refine z_iload_n F 4 dX9_onPairAndAmount_19 rfl rfl ?_
    refine z_calli0 F (z_runS (st := []) F zNo_ok trivial (fun sz => c_X9_isAmount l D g u sz) (va_cwS 1 F.1.2.2.2.2 gX9_onPairAndAmount_X9_isAmount rfl rfl rfl (by decide +kernel) ⟨Nat.le_of_ble_eq_true rfl, Nat.le_of_ble_eq_true rfl⟩) [] [] rfl rfl (by decide) rfl rfl (Nat.le_of_ble_eq_true rfl) dX9_onPairAndAmount_20 ⟨Nat.le_of_ble_eq_true rfl, Nat.le_of_ble_eq_true rfl⟩) (fun r5 _ hw4 => ?_)
    subst hw4
    refine z_if_eq (tgt := 32) F dX9_onPairAndAmount_23 (by decide) (fun c6 => ?_) (fun c6 => ?_)
    · refine z_getsE F (zEnv.ref E) 2 (by decide) rfl (List.mem_cons_of_mem _ (List.mem_append_left _ (List.mem_of_getElem? (i := 1) rfl))) dX9_onPairAndAmount_32 ?_
      exact z_eret F hA hQ hlk hr (v := some 2) rfl () (by simp only [f_onPA, if_pos c3, if_pos hz, if_pos c6]) (rfl) dX9_onPairAndAmount_35
    · refine z_getsE F (zEnv.ref E) 0 (by decide) rfl (List.mem_cons_of_mem _ (List.mem_append_left _ (List.mem_of_getElem? (i := 0) rfl))) dX9_onPairAndAmount_26 ?_
      refine z_goto (tgt := 35) F dX9_onPairAndAmount_29 (by decide) ?_
      exact z_eret F hA hQ hlk hr (v := some 0) rfl () (by simp only [f_onPA, if_pos c3, if_pos hz, if_neg c6]) (rfl) dX9_onPairAndAmount_35
  · have hz : ¬ f_onPair mc v w = 0 := fun q => c3 (by rw [q])
    refine z_aload F 0 dX9_onPairAndAmount_16 rfl ?_
    exact z_eret F hA hQ hlk hr (v := some (f_onPair mc v w)) rfl () (by simp only [f_onPA, if_neg c3, if_neg hz]) (rfl) dX9_onPairAndAmount_18
set_option maxHeartbeats 4000000 in
set_option maxRecDepth 100000 in
theorem c_X9_onDebt (l : Launch) (D : va_G) (g : Nat → ClassId) (er : Nat → Nat) (q0 : Nat) (q1 : Nat) (q2 : Nat) (q3 : Nat) (q4 : Nat) (q5 : Nat) (q6 : Nat) (am : Nat → Int32) (li : Nat → Int32) (de : Nat → Int32) (mc : Nat) (hc : Int32) (ne : Int32) (lo : Int32) (v : Int32) (w : Int32) (u : Int32) (hm : mc ≤ 8) (sz : Nat) : Met l yX9_onDebt wsX9_onDebt { frames := 3, cells := 0, slots := 0, locals := 67 } (zPc D (gT g) (zEnv er) [.ref q0, .int v, .int w, .int u] [] [(q0, .inr (7, [.ref q1, .ref q2, .ref q3, .ref q4, .ref q5, .ref q6, .int (nI mc), .int hc, .int ne, .int lo])), (q1, .inl (g 0, 64, .inl am)), (q4, .inl (g 0, 8, .inl li)), (q6, .inl (g 1, 8, .inl de))] sz) (zQe er D [] (fun (r : Option Nat) (_ : Unit) => r = some (f_onDebt mc am li de v w u)) (fun _ => []) sz) 0 0 (va_A [] sz) := by
  refine z_met (y := yX9_onDebt) (cc := cX9_onDebt) (nL := 6) (rm := { frames := 3, cells := 0, slots := 0, locals := 67 }) (D := D) (tys := gT g) (wr := [(q0, .inr (7, [.ref q1, .ref q2, .ref q3, .ref q4, .ref q5, .ref q6, .int (nI mc), .int hc, .int ne, .int lo])), (q1, .inl (g 0, 64, .inl am)), (q4, .inl (g 0, 8, .inl li)), (q6, .inl (g 1, 8, .inl de))]) (P0 := zEnv er) (As := [.ref q0, .int v, .int w, .int u]) (ww := []) (Qc := zQe er D [] (fun (r : Option Nat) (_ : Unit) => r = some (f_onDebt mc am li de v w u)) (fun _ => [])) (ret := (some (.object "DebtClearing$Refusal"))) (by decide) rfl (Nat.le_of_ble_eq_true rfl) ?_ sz
  intro p e s m args below meth c A Q hA hQ F E hr hlk hin
  show zW p l e { frames := 3, cells := 0, slots := 0, locals := 67 } s m args below meth c 6 D A Q 0 0 [] [(0, .ref q0), (1, .int v), (2, .int w), (3, .int u)] [] 0
  refine z_aload_n F 0 dX9_onDebt_0 rfl rfl ?_
  refine z_iload_n F 1 dX9_onDebt_1 rfl rfl ?_
  refine z_iload_n F 2 dX9_onDebt_2 rfl rfl ?_
  refine z_iload_n F 3 dX9_onDebt_3 rfl rfl ?_
  refine z_calle0 F (z_runS (st := []) F (zEnv_ok er) E (fun sz => c_X9_onPairAndAmount l D g er q0 q1 q2 q3 q4 q5 q6 mc hc ne lo v w u sz) (va_cwS 4 F.1.2.2.2.2 gX9_onDebt_X9_onPairAndAmount rfl rfl rfl (by decide +kernel) ⟨Nat.le_of_ble_eq_true rfl, Nat.le_of_ble_eq_true rfl⟩) [] [0] rfl rfl (by decide) rfl rfl (Nat.le_of_ble_eq_true rfl) dX9_onDebt_4 ⟨Nat.le_of_ble_eq_true rfl, Nat.le_of_ble_eq_true rfl⟩) (fun r2 _ hw1 => ?_)
  subst hw1
  refine z_st (st' := [.ref (er (f_onPA mc v w u))]) rfl ?_
  refine z_astore (lv' := [(4, .ref (er (f_onPA mc v w u))), (0, .ref q0), (1, .int v), (2, .int w), (3, .int u)]) F dX9_onDebt_7 (by decide) rfl ?_
  refine z_aload F 0 dX9_onDebt_9 rfl ?_
  refine z_getsE F (zEnv.ref E) 0 (by decide) rfl (List.mem_cons_of_mem _ (List.mem_append_left _ (List.mem_append_left _ (List.mem_append_left _ (List.mem_of_getElem? (i := 0) rfl))))) dX9_onDebt_11 ?_
  refine z_acmp_eq (tgt := 20) F dX9_onDebt_14 (by decide) (fun c3 => ?_) (fun c3 => ?_)
  · have hz : f_onPA mc v w u = 0 := z_er (zEnv.ref E) c3 (f_onPA_lt mc v w u) (by decide)
    have hz9 := hz
    obtain ⟨x, y, hx, hy, hxy, rfl, rfl, ham⟩ := z_onPA hz9 hm
    have hx8 : x < 8 := by omega
    have hy8 : y < 8 := by omega
    refine z_aload_n F 1 dX9_onDebt_20 rfl rfl ?_
    refine z_getN (C := RX5) (T := TX5) (N := 10) F (fun w h => List.mem_cons_of_mem _ (List.mem_append_left _ (List.mem_append_right _ (h)))) 0 rfl rfl 5 (by decide) (zEnv.nf E 11 rfl) rfl rfl dX9_onDebt_21 ?_
    refine z_iload_n F 2 dX9_onDebt_24 rfl rfl ?_
    refine z_zaldN (j := x) F 3 1 rfl rfl (by omega) (by decide) dX9_onDebt_25 ?_
    refine z_if_eq (tgt := 33) F dX9_onDebt_26 (by decide) (fun c4 => ?_) (fun c4 => ?_)
    · refine z_aload_n F 1 dX9_onDebt_33 rfl rfl ?_
      refine z_iload_n F 2 dX9_onDebt_34 rfl rfl ?_
      refine z_calli0 F (z_runV (st := []) F zNo_ok trivial (fun sz => c_X5_debitOf l D g q0 q1 q2 q3 q4 q5 q6 am mc hc ne lo x (by omega) sz) (cwV 1 F.1.2.2.2.2 gX9_onDebt_X5_debitOf rfl rfl rfl (by decide +kernel) ⟨Nat.le_of_ble_eq_true rfl, Nat.le_of_ble_eq_true rfl⟩) 0 rfl rfl rfl [] [0, 1] rfl rfl (by decide) rfl rfl (Nat.le_of_ble_eq_true rfl) dX9_onDebt_35 ⟨Nat.le_of_ble_eq_true rfl, Nat.le_of_ble_eq_true rfl⟩) (fun r6 _ hw5 => ?_)
      subst hw5
      refine z_iload_n F 4 dX9_onDebt_38 rfl rfl ?_
      refine z_iadd F dX9_onDebt_39 ?_
      refine z_aload_n F 1 dX9_onDebt_40 rfl rfl ?_
      refine z_getN (C := RX5) (T := TX5) (N := 10) F (fun w h => List.mem_cons_of_mem _ (List.mem_append_left _ (List.mem_append_right _ (h)))) 0 rfl rfl 3 (by decide) (zEnv.nf E 7 rfl) rfl rfl dX9_onDebt_41 ?_
      refine z_iload_n F 2 dX9_onDebt_44 rfl rfl ?_
      refine z_ialdN (j := x) F 2 0 rfl rfl (by omega) (by decide) dX9_onDebt_45 ?_
      refine z_icmp_le (tgt := 53) F dX9_onDebt_46 (by decide) (fun c7 => ?_) (fun c7 => ?_)
      · refine z_iconst (v := 0) F dX9_onDebt_53 (by decide) ?_
        refine z_istore (lv' := [(5, .int 0), (4, .ref (er (f_onPA mc (nI x) (nI y) u))), (0, .ref q0), (1, .int (nI x)), (2, .int (nI y)), (3, .int u)]) F dX9_onDebt_54 (by decide) rfl ?_
        refine z_iload F 0 dX9_onDebt_56 rfl ?_
        refine z_if_eq (tgt := 67) F dX9_onDebt_58 (by decide) (fun c8 => ?_) (fun c8 => ?_)
        · refine z_getsE F (zEnv.ref E) 0 (by decide) rfl (List.mem_cons_of_mem _ (List.mem_append_left _ (List.mem_append_left _ (List.mem_append_left _ (List.mem_of_getElem? (i := 0) rfl))))) dX9_onDebt_67 ?_
          exact z_eret F hA hQ hlk hr (v := some 0) rfl () (by simp only [f_onDebt, z_nn hx8, z_nn hy8, if_pos hz, if_pos c4, if_pos c7, if_pos c8]) (rfl) dX9_onDebt_70
        · exact absurd (by decide) c8
      · refine z_iconst (v := 1) F dX9_onDebt_49 (by decide) ?_
        refine z_goto (tgt := 54) F dX9_onDebt_50 (by decide) ?_
        refine z_istore (lv' := [(5, .int 1), (4, .ref (er (f_onPA mc (nI x) (nI y) u))), (0, .ref q0), (1, .int (nI x)), (2, .int (nI y)), (3, .int u)]) F dX9_onDebt_54 (by decide) rfl ?_
        refine z_iload F 0 dX9_onDebt_56 rfl ?_
        refine z_if_eq (tgt := 67) F dX9_onDebt_58 (by decide) (fun c9 => ?_) (fun c9 => ?_)
        · exact absurd c9 (by decide)
        · refine z_getsE F (zEnv.ref E) 4 (by decide) rfl (List.mem_cons_of_mem _ (List.mem_append_left _ (List.mem_append_left _ (List.mem_append_left _ (List.mem_of_getElem? (i := 2) rfl))))) dX9_onDebt_61 ?_
          refine z_goto (tgt := 70) F dX9_onDebt_64 (by decide) ?_
          exact z_eret F hA hQ hlk hr (v := some 4) rfl () (by simp only [f_onDebt, z_nn hx8, z_nn hy8, if_pos hz, if_pos c4, if_neg c7, if_neg c9]) (rfl) dX9_onDebt_70
    · refine z_getsE F (zEnv.ref E) 3 (by decide) rfl (List.mem_cons_of_mem _ (List.mem_append_left _ (List.mem_append_left _ (List.mem_append_left _ (List.mem_of_getElem? (i := 1) rfl))))) dX9_onDebt_29 ?_
      exact z_eret F hA hQ hlk hr (v := some 3) rfl () (by simp only [f_onDebt, z_nn hx8, z_nn hy8, if_pos hz, if_neg c4]) (rfl) dX9_onDebt_32
  · have hz : ¬ f_onPA mc v w u = 0 := fun q => c3 (by rw [q])
    refine z_aload F 0 dX9_onDebt_17 rfl ?_
    exact z_eret F hA hQ hlk hr (v := some (f_onPA mc v w u)) rfl () (by simp only [f_onDebt, if_neg hz]) (rfl) dX9_onDebt_19
set_option maxHeartbeats 4000000 in
set_option maxRecDepth 100000 in
theorem c_X9_onPayment (l : Launch) (D : va_G) (g : Nat → ClassId) (er : Nat → Nat) (q0 : Nat) (q1 : Nat) (q2 : Nat) (q3 : Nat) (q4 : Nat) (q5 : Nat) (q6 : Nat) (am : Nat → Int32) (co : Nat → Int32) (mc : Nat) (hc : Int32) (ne : Int32) (lo : Int32) (v : Int32) (w : Int32) (u : Int32) (hm : mc ≤ 8) (sz : Nat) : Met l yX9_onPayment wsX9_onPayment { frames := 3, cells := 0, slots := 0, locals := 67 } (zPc D (gT g) (zEnv er) [.ref q0, .int v, .int w, .int u] [] [(q0, .inr (7, [.ref q1, .ref q2, .ref q3, .ref q4, .ref q5, .ref q6, .int (nI mc), .int hc, .int ne, .int lo])), (q1, .inl (g 0, 64, .inl am)), (q2, .inl (g 0, 8, .inl co))] sz) (zQe er D [] (fun (r : Option Nat) (_ : Unit) => r = some (f_onPay mc am co v w u)) (fun _ => []) sz) 0 0 (va_A [] sz) := by
  refine z_met (y := yX9_onPayment) (cc := cX9_onPayment) (nL := 5) (rm := { frames := 3, cells := 0, slots := 0, locals := 67 }) (D := D) (tys := gT g) (wr := [(q0, .inr (7, [.ref q1, .ref q2, .ref q3, .ref q4, .ref q5, .ref q6, .int (nI mc), .int hc, .int ne, .int lo])), (q1, .inl (g 0, 64, .inl am)), (q2, .inl (g 0, 8, .inl co))]) (P0 := zEnv er) (As := [.ref q0, .int v, .int w, .int u]) (ww := []) (Qc := zQe er D [] (fun (r : Option Nat) (_ : Unit) => r = some (f_onPay mc am co v w u)) (fun _ => [])) (ret := (some (.object "DebtClearing$Refusal"))) (by decide) rfl (Nat.le_of_ble_eq_true rfl) ?_ sz
  intro p e s m args below meth c A Q hA hQ F E hr hlk hin
  show zW p l e { frames := 3, cells := 0, slots := 0, locals := 67 } s m args below meth c 5 D A Q 0 0 [] [(0, .ref q0), (1, .int v), (2, .int w), (3, .int u)] [] 0
  refine z_aload_n F 0 dX9_onPayment_0 rfl rfl ?_
  refine z_iload_n F 1 dX9_onPayment_1 rfl rfl ?_
  refine z_iload_n F 2 dX9_onPayment_2 rfl rfl ?_
  refine z_iload_n F 3 dX9_onPayment_3 rfl rfl ?_
  refine z_calle0 F (z_runS (st := []) F (zEnv_ok er) E (fun sz => c_X9_onPairAndAmount l D g er q0 q1 q2 q3 q4 q5 q6 mc hc ne lo v w u sz) (va_cwS 4 F.1.2.2.2.2 gX9_onPayment_X9_onPairAndAmount rfl rfl rfl (by decide +kernel) ⟨Nat.le_of_ble_eq_true rfl, Nat.le_of_ble_eq_true rfl⟩) [] [0] rfl rfl (by decide) rfl rfl (Nat.le_of_ble_eq_true rfl) dX9_onPayment_4 ⟨Nat.le_of_ble_eq_true rfl, Nat.le_of_ble_eq_true rfl⟩) (fun r2 _ hw1 => ?_)
  subst hw1
  refine z_st (st' := [.ref (er (f_onPA mc v w u))]) rfl ?_
  refine z_astore (lv' := [(4, .ref (er (f_onPA mc v w u))), (0, .ref q0), (1, .int v), (2, .int w), (3, .int u)]) F dX9_onPayment_7 (by decide) rfl ?_
  refine z_aload F 0 dX9_onPayment_9 rfl ?_
  refine z_getsE F (zEnv.ref E) 0 (by decide) rfl (List.mem_cons_of_mem _ (List.mem_append_left _ (List.mem_append_left _ (List.mem_append_left _ (List.mem_of_getElem? (i := 0) rfl))))) dX9_onPayment_11 ?_
  refine z_acmp_eq (tgt := 20) F dX9_onPayment_14 (by decide) (fun c3 => ?_) (fun c3 => ?_)
  · have hz : f_onPA mc v w u = 0 := z_er (zEnv.ref E) c3 (f_onPA_lt mc v w u) (by decide)
    have hz9 := hz
    obtain ⟨x, y, hx, hy, hxy, rfl, rfl, ham⟩ := z_onPA hz9 hm
    have hx8 : x < 8 := by omega
    have hy8 : y < 8 := by omega
    refine z_aload_n F 1 dX9_onPayment_20 rfl rfl ?_
    refine z_iload_n F 2 dX9_onPayment_21 rfl rfl ?_
    refine z_iload_n F 3 dX9_onPayment_22 rfl rfl ?_
    refine z_calli0 F (z_runV (st := []) F zNo_ok trivial (fun sz => c_X5_amountOwed l D g q0 q1 q2 q3 q4 q5 q6 am mc hc ne lo x y (by omega) (by omega) sz) (cwV 2 F.1.2.2.2.2 gX9_onPayment_X5_amountOwed rfl rfl rfl (by decide +kernel) ⟨Nat.le_of_ble_eq_true rfl, Nat.le_of_ble_eq_true rfl⟩) 0 rfl rfl rfl [] [0, 1] rfl rfl (by decide) rfl rfl (Nat.le_of_ble_eq_true rfl) dX9_onPayment_23 ⟨Nat.le_of_ble_eq_true rfl, Nat.le_of_ble_eq_true rfl⟩) (fun r5 _ hw4 => ?_)
    subst hw4
    refine z_iload_n F 4 dX9_onPayment_26 rfl rfl ?_
    refine z_icmp_ge (tgt := 34) F dX9_onPayment_27 (by decide) (fun c6 => ?_) (fun c6 => ?_)
    · refine z_aload_n F 1 dX9_onPayment_34 rfl rfl ?_
      refine z_getN (C := RX5) (T := TX5) (N := 10) F (fun w h => List.mem_cons_of_mem _ (List.mem_append_left _ (List.mem_append_right _ (h)))) 0 rfl rfl 1 (by decide) (zEnv.nf E 2 rfl) rfl rfl dX9_onPayment_35 ?_
      refine z_iload_n F 2 dX9_onPayment_38 rfl rfl ?_
      refine z_ialdN (j := x) F 2 0 rfl rfl (by omega) (by decide) dX9_onPayment_39 ?_
      refine z_iload_n F 4 dX9_onPayment_40 rfl rfl ?_
      refine z_icmp_ge (tgt := 50) F dX9_onPayment_41 (by decide) (fun c7 => ?_) (fun c7 => ?_)
      · refine z_getsE F (zEnv.ref E) 0 (by decide) rfl (List.mem_cons_of_mem _ (List.mem_append_left _ (List.mem_append_left _ (List.mem_append_left _ (List.mem_of_getElem? (i := 0) rfl))))) dX9_onPayment_50 ?_
        exact z_eret F hA hQ hlk hr (v := some 0) rfl () (by simp only [f_onPay, z_nn hx8, z_nn hy8, if_pos hz, if_pos c6, if_pos c7]) (rfl) dX9_onPayment_53
      · refine z_getsE F (zEnv.ref E) 4 (by decide) rfl (List.mem_cons_of_mem _ (List.mem_append_left _ (List.mem_append_left _ (List.mem_append_left _ (List.mem_of_getElem? (i := 2) rfl))))) dX9_onPayment_44 ?_
        refine z_goto (tgt := 53) F dX9_onPayment_47 (by decide) ?_
        exact z_eret F hA hQ hlk hr (v := some 4) rfl () (by simp only [f_onPay, z_nn hx8, z_nn hy8, if_pos hz, if_pos c6, if_neg c7]) (rfl) dX9_onPayment_53
    · refine z_getsE F (zEnv.ref E) 3 (by decide) rfl (List.mem_cons_of_mem _ (List.mem_append_left _ (List.mem_append_left _ (List.mem_append_left _ (List.mem_of_getElem? (i := 1) rfl))))) dX9_onPayment_30 ?_
      exact z_eret F hA hQ hlk hr (v := some 3) rfl () (by simp only [f_onPay, z_nn hx8, z_nn hy8, if_pos hz, if_neg c6]) (rfl) dX9_onPayment_33
  · have hz : ¬ f_onPA mc v w u = 0 := fun q => c3 (by rw [q])
    refine z_aload F 0 dX9_onPayment_17 rfl ?_
    exact z_eret F hA hQ hlk hr (v := some (f_onPA mc v w u)) rfl () (by simp only [f_onPay, if_neg hz]) (rfl) dX9_onPayment_19
set_option maxHeartbeats 4000000 in
set_option maxRecDepth 100000 in
theorem c_X9_onTriangle (l : Launch) (D : va_G) (g : Nat → ClassId) (er : Nat → Nat) (q0 : Nat) (q1 : Nat) (q2 : Nat) (q3 : Nat) (q4 : Nat) (q5 : Nat) (q6 : Nat) (am : Nat → Int32) (mc : Nat) (hc : Int32) (ne : Int32) (lo : Int32) (v : Int32) (w : Int32) (u : Int32) (hm : mc ≤ 8) (sz : Nat) : Met l yX9_onTriangle wsX9_onTriangle { frames := 1, cells := 0, slots := 0, locals := 22 } (zPc D (gT g) (zEnv er) [.ref q0, .int v, .int w, .int u] [] [(q0, .inr (7, [.ref q1, .ref q2, .ref q3, .ref q4, .ref q5, .ref q6, .int (nI mc), .int hc, .int ne, .int lo])), (q1, .inl (g 0, 64, .inl am))] sz) (zQe er D [] (fun (r : Option Nat) (_ : Unit) => r = some (f_onTri mc am v w u)) (fun _ => []) sz) 0 0 (va_A [] sz) := by
  refine z_met (y := yX9_onTriangle) (cc := cX9_onTriangle) (nL := 5) (rm := { frames := 1, cells := 0, slots := 0, locals := 22 }) (D := D) (tys := gT g) (wr := [(q0, .inr (7, [.ref q1, .ref q2, .ref q3, .ref q4, .ref q5, .ref q6, .int (nI mc), .int hc, .int ne, .int lo])), (q1, .inl (g 0, 64, .inl am))]) (P0 := zEnv er) (As := [.ref q0, .int v, .int w, .int u]) (ww := []) (Qc := zQe er D [] (fun (r : Option Nat) (_ : Unit) => r = some (f_onTri mc am v w u)) (fun _ => [])) (ret := (some (.object "DebtClearing$Refusal"))) (by decide) rfl (Nat.le_of_ble_eq_true rfl) ?_ sz
  intro p e s m args below meth c A Q hA hQ F E hr hlk hin
  show zW p l e { frames := 1, cells := 0, slots := 0, locals := 22 } s m args below meth c 5 D A Q 0 0 [] [(0, .ref q0), (1, .int v), (2, .int w), (3, .int u)] [] 0
  refine z_aload_n F 0 dX9_onTriangle_0 rfl rfl ?_
  refine z_iload_n F 1 dX9_onTriangle_1 rfl rfl ?_
  refine z_calli0 F (z_runV (st := []) F zNo_ok trivial (fun sz => c_X5_hasMember l D g q0 q1 q2 q3 q4 q5 q6 mc hc ne lo v sz) (cwV 1 F.1.2.2.2.2 gX9_onTriangle_X5_hasMember rfl rfl rfl (by decide +kernel) ⟨Nat.le_of_ble_eq_true rfl, Nat.le_of_ble_eq_true rfl⟩) 0 rfl rfl rfl [] [0] rfl rfl (by decide) rfl rfl (Nat.le_of_ble_eq_true rfl) dX9_onTriangle_2 ⟨Nat.le_of_ble_eq_true rfl, Nat.le_of_ble_eq_true rfl⟩) (fun r2 _ hw1 => ?_)
  subst hw1
  refine z_if_eq (tgt := 24) F dX9_onTriangle_5 (by decide) (fun c3 => ?_) (fun c3 => ?_)
  · refine z_getsE F (zEnv.ref E) 1 (by decide) rfl (List.mem_cons_of_mem _ (List.mem_append_left _ (List.mem_append_left _ (List.mem_of_getElem? (i := 0) rfl)))) dX9_onTriangle_24 ?_
    exact z_eret F hA hQ hlk hr (v := some 1) rfl () (by simp only [f_onTri, if_pos c3]) (rfl) dX9_onTriangle_27
  · obtain ⟨x, hx, rfl⟩ := z_has c3 hm
    have hx8 : x < 8 := by omega
    refine z_aload_n F 0 dX9_onTriangle_8 rfl rfl ?_
    refine z_iload_n F 2 dX9_onTriangle_9 rfl rfl ?_
    refine z_calli0 F (z_runV (st := []) F zNo_ok trivial (fun sz => c_X5_hasMember l D g q0 q1 q2 q3 q4 q5 q6 mc hc ne lo w sz) (cwV 1 F.1.2.2.2.2 gX9_onTriangle_X5_hasMember rfl rfl rfl (by decide +kernel) ⟨Nat.le_of_ble_eq_true rfl, Nat.le_of_ble_eq_true rfl⟩) 0 rfl rfl rfl [] [0] rfl rfl (by decide) rfl rfl (Nat.le_of_ble_eq_true rfl) dX9_onTriangle_10 ⟨Nat.le_of_ble_eq_true rfl, Nat.le_of_ble_eq_true rfl⟩) (fun r5 _ hw4 => ?_)
    subst hw4
    refine z_if_eq (tgt := 24) F dX9_onTriangle_13 (by decide) (fun c6 => ?_) (fun c6 => ?_)
    · refine z_getsE F (zEnv.ref E) 1 (by decide) rfl (List.mem_cons_of_mem _ (List.mem_append_left _ (List.mem_append_left _ (List.mem_of_getElem? (i := 0) rfl)))) dX9_onTriangle_24 ?_
      exact z_eret F hA hQ hlk hr (v := some 1) rfl () (by simp only [f_onTri, z_nn hx8, if_neg c3, if_pos c6]) (rfl) dX9_onTriangle_27
    · obtain ⟨y, hy, rfl⟩ := z_has c6 hm
      have hy8 : y < 8 := by omega
      refine z_aload_n F 0 dX9_onTriangle_16 rfl rfl ?_
      refine z_iload_n F 3 dX9_onTriangle_17 rfl rfl ?_
      refine z_calli0 F (z_runV (st := []) F zNo_ok trivial (fun sz => c_X5_hasMember l D g q0 q1 q2 q3 q4 q5 q6 mc hc ne lo u sz) (cwV 1 F.1.2.2.2.2 gX9_onTriangle_X5_hasMember rfl rfl rfl (by decide +kernel) ⟨Nat.le_of_ble_eq_true rfl, Nat.le_of_ble_eq_true rfl⟩) 0 rfl rfl rfl [] [0] rfl rfl (by decide) rfl rfl (Nat.le_of_ble_eq_true rfl) dX9_onTriangle_18 ⟨Nat.le_of_ble_eq_true rfl, Nat.le_of_ble_eq_true rfl⟩) (fun r8 _ hw7 => ?_)
      subst hw7
      refine z_if_ne (tgt := 28) F dX9_onTriangle_21 (by decide) (fun c9 => ?_) (fun c9 => ?_)
      · obtain ⟨z, hz, rfl⟩ := z_has c9 hm
        have hz8 : z < 8 := by omega
        refine z_iload_n F 1 dX9_onTriangle_28 rfl rfl ?_
        refine z_iload_n F 2 dX9_onTriangle_29 rfl rfl ?_
        refine z_icmp_eq (tgt := 43) F dX9_onTriangle_30 (by decide) (fun c10 => ?_) (fun c10 => ?_)
        · refine z_getsE F (zEnv.ref E) 2 (by decide) rfl (List.mem_cons_of_mem _ (List.mem_append_left _ (List.mem_append_left _ (List.mem_of_getElem? (i := 1) rfl)))) dX9_onTriangle_43 ?_
          exact z_eret F hA hQ hlk hr (v := some 2) rfl () (by simp only [f_onTri, z_nn hx8, z_nn hy8, z_nn hz8, if_neg c3, if_neg c6, if_neg c9, if_pos c10]) (rfl) dX9_onTriangle_46
        · refine z_iload_n F 2 dX9_onTriangle_33 rfl rfl ?_
          refine z_iload_n F 3 dX9_onTriangle_34 rfl rfl ?_
          refine z_icmp_eq (tgt := 43) F dX9_onTriangle_35 (by decide) (fun c11 => ?_) (fun c11 => ?_)
          · refine z_getsE F (zEnv.ref E) 2 (by decide) rfl (List.mem_cons_of_mem _ (List.mem_append_left _ (List.mem_append_left _ (List.mem_of_getElem? (i := 1) rfl)))) dX9_onTriangle_43 ?_
            exact z_eret F hA hQ hlk hr (v := some 2) rfl () (by simp only [f_onTri, z_nn hx8, z_nn hy8, z_nn hz8, if_neg c3, if_neg c6, if_neg c9, if_neg c10, if_pos c11]) (rfl) dX9_onTriangle_46
          · refine z_iload_n F 3 dX9_onTriangle_38 rfl rfl ?_
            refine z_iload_n F 1 dX9_onTriangle_39 rfl rfl ?_
            refine z_icmp_ne (tgt := 47) F dX9_onTriangle_40 (by decide) (fun c12 => ?_) (fun c12 => ?_)
            · refine z_aload_n F 0 dX9_onTriangle_47 rfl rfl ?_
              refine z_iload_n F 1 dX9_onTriangle_48 rfl rfl ?_
              refine z_iload_n F 2 dX9_onTriangle_49 rfl rfl ?_
              refine z_calli0 F (z_runV (st := []) F zNo_ok trivial (fun sz => c_X5_amountOwed l D g q0 q1 q2 q3 q4 q5 q6 am mc hc ne lo x y (by omega) (by omega) sz) (cwV 2 F.1.2.2.2.2 gX9_onTriangle_X5_amountOwed rfl rfl rfl (by decide +kernel) ⟨Nat.le_of_ble_eq_true rfl, Nat.le_of_ble_eq_true rfl⟩) 0 rfl rfl rfl [] [0, 1] rfl rfl (by decide) rfl rfl (Nat.le_of_ble_eq_true rfl) dX9_onTriangle_50 ⟨Nat.le_of_ble_eq_true rfl, Nat.le_of_ble_eq_true rfl⟩) (fun r14 _ hw13 => ?_)
              subst hw13
              refine z_if_le (tgt := 78) F dX9_onTriangle_53 (by decide) (fun c15 => ?_) (fun c15 => ?_)
              · refine z_iconst (v := 0) F dX9_onTriangle_78 (by decide) ?_
                refine z_istore (lv' := [(4, .int 0), (0, .ref q0), (1, .int (nI x)), (2, .int (nI y)), (3, .int (nI z))]) F dX9_onTriangle_79 (by decide) rfl ?_
                refine z_iload F 0 dX9_onTriangle_81 rfl ?_
                refine z_if_eq (tgt := 92) F dX9_onTriangle_83 (by decide) (fun c16 => ?_) (fun c16 => ?_)
                · refine z_getsE F (zEnv.ref E) 3 (by decide) rfl (List.mem_cons_of_mem _ (List.mem_append_left _ (List.mem_append_left _ (List.mem_of_getElem? (i := 3) rfl)))) dX9_onTriangle_92 ?_
                  exact z_eret F hA hQ hlk hr (v := some 3) rfl () (by simp only [f_onTri, z_nn hx8, z_nn hy8, z_nn hz8, if_neg c3, if_neg c6, if_neg c9, if_neg c10, if_neg c11, if_neg c12, if_pos c15, if_pos c16]) (rfl) dX9_onTriangle_95
                · exact absurd (by decide) c16
              · refine z_aload_n F 0 dX9_onTriangle_56 rfl rfl ?_
                refine z_iload_n F 2 dX9_onTriangle_57 rfl rfl ?_
                refine z_iload_n F 3 dX9_onTriangle_58 rfl rfl ?_
                refine z_calli0 F (z_runV (st := []) F zNo_ok trivial (fun sz => c_X5_amountOwed l D g q0 q1 q2 q3 q4 q5 q6 am mc hc ne lo y z (by omega) (by omega) sz) (cwV 2 F.1.2.2.2.2 gX9_onTriangle_X5_amountOwed rfl rfl rfl (by decide +kernel) ⟨Nat.le_of_ble_eq_true rfl, Nat.le_of_ble_eq_true rfl⟩) 0 rfl rfl rfl [] [0, 1] rfl rfl (by decide) rfl rfl (Nat.le_of_ble_eq_true rfl) dX9_onTriangle_59 ⟨Nat.le_of_ble_eq_true rfl, Nat.le_of_ble_eq_true rfl⟩) (fun r18 _ hw17 => ?_)
                subst hw17
                refine z_if_le (tgt := 78) F dX9_onTriangle_62 (by decide) (fun c19 => ?_) (fun c19 => ?_)
                · refine z_iconst (v := 0) F dX9_onTriangle_78 (by decide) ?_
                  refine z_istore (lv' := [(4, .int 0), (0, .ref q0), (1, .int (nI x)), (2, .int (nI y)), (3, .int (nI z))]) F dX9_onTriangle_79 (by decide) rfl ?_
                  refine z_iload F 0 dX9_onTriangle_81 rfl ?_
                  refine z_if_eq (tgt := 92) F dX9_onTriangle_83 (by decide) (fun c20 => ?_) (fun c20 => ?_)
                  · refine z_getsE F (zEnv.ref E) 3 (by decide) rfl (List.mem_cons_of_mem _ (List.mem_append_left _ (List.mem_append_left _ (List.mem_of_getElem? (i := 3) rfl)))) dX9_onTriangle_92 ?_
                    exact z_eret F hA hQ hlk hr (v := some 3) rfl () (by simp only [f_onTri, z_nn hx8, z_nn hy8, z_nn hz8, if_neg c3, if_neg c6, if_neg c9, if_neg c10, if_neg c11, if_neg c12, if_neg c15, if_pos c19, if_pos c20]) (rfl) dX9_onTriangle_95
                  · exact absurd (by decide) c20
                · refine z_aload_n F 0 dX9_onTriangle_65 rfl rfl ?_
                  refine z_iload_n F 3 dX9_onTriangle_66 rfl rfl ?_
                  refine z_iload_n F 1 dX9_onTriangle_67 rfl rfl ?_
                  refine z_calli0 F (z_runV (st := []) F zNo_ok trivial (fun sz => c_X5_amountOwed l D g q0 q1 q2 q3 q4 q5 q6 am mc hc ne lo z x (by omega) (by omega) sz) (cwV 2 F.1.2.2.2.2 gX9_onTriangle_X5_amountOwed rfl rfl rfl (by decide +kernel) ⟨Nat.le_of_ble_eq_true rfl, Nat.le_of_ble_eq_true rfl⟩) 0 rfl rfl rfl [] [0, 1] rfl rfl (by decide) rfl rfl (Nat.le_of_ble_eq_true rfl) dX9_onTriangle_68 ⟨Nat.le_of_ble_eq_true rfl, Nat.le_of_ble_eq_true rfl⟩) (fun r22 _ hw21 => ?_)
                  subst hw21
                  refine z_if_le (tgt := 78) F dX9_onTriangle_71 (by decide) (fun c23 => ?_) (fun c23 => ?_)
                  · refine z_iconst (v := 0) F dX9_onTriangle_78 (by decide) ?_
                    refine z_istore (lv' := [(4, .int 0), (0, .ref q0), (1, .int (nI x)), (2, .int (nI y)), (3, .int (nI z))]) F dX9_onTriangle_79 (by decide) rfl ?_
                    refine z_iload F 0 dX9_onTriangle_81 rfl ?_
                    refine z_if_eq (tgt := 92) F dX9_onTriangle_83 (by decide) (fun c24 => ?_) (fun c24 => ?_)
                    · refine z_getsE F (zEnv.ref E) 3 (by decide) rfl (List.mem_cons_of_mem _ (List.mem_append_left _ (List.mem_append_left _ (List.mem_of_getElem? (i := 3) rfl)))) dX9_onTriangle_92 ?_
                      exact z_eret F hA hQ hlk hr (v := some 3) rfl () (by simp only [f_onTri, z_nn hx8, z_nn hy8, z_nn hz8, if_neg c3, if_neg c6, if_neg c9, if_neg c10, if_neg c11, if_neg c12, if_neg c15, if_neg c19, if_pos c23, if_pos c24]) (rfl) dX9_onTriangle_95
                    · exact absurd (by decide) c24
                  · refine z_iconst (v := 1) F dX9_onTriangle_74 (by decide) ?_
                    refine z_goto (tgt := 79) F dX9_onTriangle_75 (by decide) ?_
                    refine z_istore (lv' := [(4, .int 1), (0, .ref q0), (1, .int (nI x)), (2, .int (nI y)), (3, .int (nI z))]) F dX9_onTriangle_79 (by decide) rfl ?_
                    refine z_iload F 0 dX9_onTriangle_81 rfl ?_
                    refine z_if_eq (tgt := 92) F dX9_onTriangle_83 (by decide) (fun c25 => ?_) (fun c25 => ?_)
                    · exact absurd c25 (by decide)
                    · refine z_getsE F (zEnv.ref E) 0 (by decide) rfl (List.mem_cons_of_mem _ (List.mem_append_left _ (List.mem_append_left _ (List.mem_of_getElem? (i := 2) rfl)))) dX9_onTriangle_86 ?_
                      refine z_goto (tgt := 95) F dX9_onTriangle_89 (by decide) ?_
                      exact z_eret F hA hQ hlk hr (v := some 0) rfl () (by simp only [f_onTri, z_nn hx8, z_nn hy8, z_nn hz8, if_neg c3, if_neg c6, if_neg c9, if_neg c10, if_neg c11, if_neg c12, if_neg c15, if_neg c19, if_neg c23, if_neg c25]) (rfl) dX9_onTriangle_95
            · refine z_getsE F (zEnv.ref E) 2 (by decide) rfl (List.mem_cons_of_mem _ (List.mem_append_left _ (List.mem_append_left _ (List.mem_of_getElem? (i := 1) rfl)))) dX9_onTriangle_43 ?_
              exact z_eret F hA hQ hlk hr (v := some 2) rfl () (by simp only [f_onTri, z_nn hx8, z_nn hy8, z_nn hz8, if_neg c3, if_neg c6, if_neg c9, if_neg c10, if_neg c11, if_pos c12]) (rfl) dX9_onTriangle_46
      · refine z_getsE F (zEnv.ref E) 1 (by decide) rfl (List.mem_cons_of_mem _ (List.mem_append_left _ (List.mem_append_left _ (List.mem_of_getElem? (i := 0) rfl)))) dX9_onTriangle_24 ?_
        exact z_eret F hA hQ hlk hr (v := some 1) rfl () (by simp only [f_onTri, z_nn hx8, z_nn hy8, if_neg c3, if_neg c6, if_pos c9]) (rfl) dX9_onTriangle_27
set_option maxHeartbeats 4000000 in
set_option maxRecDepth 100000 in
theorem c_X9_onPledge (l : Launch) (D : va_G) (g : Nat → ClassId) (er : Nat → Nat) (q0 : Nat) (q1 : Nat) (q2 : Nat) (q3 : Nat) (q4 : Nat) (q5 : Nat) (q6 : Nat) (ca : Nat → Int32) (mc : Nat) (hc : Int32) (ne : Int32) (lo : Int32) (v : Int32) (u : Int32) (hm : mc ≤ 8) (sz : Nat) : Met l yX9_onPledge wsX9_onPledge { frames := 1, cells := 0, slots := 0, locals := 21 } (zPc D (gT g) (zEnv er) [.ref q0, .int v, .int u] [] [(q0, .inr (7, [.ref q1, .ref q2, .ref q3, .ref q4, .ref q5, .ref q6, .int (nI mc), .int hc, .int ne, .int lo])), (q3, .inl (g 0, 8, .inl ca))] sz) (zQe er D [] (fun (r : Option Nat) (_ : Unit) => r = some (f_onPl mc ca v u)) (fun _ => []) sz) 0 0 (va_A [] sz) := by
  refine z_met (y := yX9_onPledge) (cc := cX9_onPledge) (nL := 4) (rm := { frames := 1, cells := 0, slots := 0, locals := 21 }) (D := D) (tys := gT g) (wr := [(q0, .inr (7, [.ref q1, .ref q2, .ref q3, .ref q4, .ref q5, .ref q6, .int (nI mc), .int hc, .int ne, .int lo])), (q3, .inl (g 0, 8, .inl ca))]) (P0 := zEnv er) (As := [.ref q0, .int v, .int u]) (ww := []) (Qc := zQe er D [] (fun (r : Option Nat) (_ : Unit) => r = some (f_onPl mc ca v u)) (fun _ => [])) (ret := (some (.object "DebtClearing$Refusal"))) (by decide) rfl (Nat.le_of_ble_eq_true rfl) ?_ sz
  intro p e s m args below meth c A Q hA hQ F E hr hlk hin
  show zW p l e { frames := 1, cells := 0, slots := 0, locals := 21 } s m args below meth c 4 D A Q 0 0 [] [(0, .ref q0), (1, .int v), (2, .int u)] [] 0
  refine z_aload_n F 0 dX9_onPledge_0 rfl rfl ?_
  refine z_iload_n F 1 dX9_onPledge_1 rfl rfl ?_
  refine z_calli0 F (z_runV (st := []) F zNo_ok trivial (fun sz => c_X5_hasMember l D g q0 q1 q2 q3 q4 q5 q6 mc hc ne lo v sz) (cwV 1 F.1.2.2.2.2 gX9_onPledge_X5_hasMember rfl rfl rfl (by decide +kernel) ⟨Nat.le_of_ble_eq_true rfl, Nat.le_of_ble_eq_true rfl⟩) 0 rfl rfl rfl [] [0] rfl rfl (by decide) rfl rfl (Nat.le_of_ble_eq_true rfl) dX9_onPledge_2 ⟨Nat.le_of_ble_eq_true rfl, Nat.le_of_ble_eq_true rfl⟩) (fun r2 _ hw1 => ?_)
  subst hw1
  refine z_if_ne (tgt := 12) F dX9_onPledge_5 (by decide) (fun c3 => ?_) (fun c3 => ?_)
  · obtain ⟨x, hx, rfl⟩ := z_has c3 hm
    have hx8 : x < 8 := by omega
    refine z_iload_n F 2 dX9_onPledge_12 rfl rfl ?_
    refine z_calli0 F (z_runS (st := []) F zNo_ok trivial (fun sz => c_X9_isAmount l D g u sz) (va_cwS 1 F.1.2.2.2.2 gX9_onPledge_X9_isAmount rfl rfl rfl (by decide +kernel) ⟨Nat.le_of_ble_eq_true rfl, Nat.le_of_ble_eq_true rfl⟩) [] [] rfl rfl (by decide) rfl rfl (Nat.le_of_ble_eq_true rfl) dX9_onPledge_13 ⟨Nat.le_of_ble_eq_true rfl, Nat.le_of_ble_eq_true rfl⟩) (fun r5 _ hw4 => ?_)
    subst hw4
    refine z_if_ne (tgt := 23) F dX9_onPledge_16 (by decide) (fun c6 => ?_) (fun c6 => ?_)
    · refine z_aload_n F 0 dX9_onPledge_23 rfl rfl ?_
      refine z_getN (C := RX5) (T := TX5) (N := 10) F (fun w h => List.mem_cons_of_mem _ (List.mem_append_left _ (List.mem_append_right _ (h)))) 0 rfl rfl 2 (by decide) (zEnv.nf E 5 rfl) rfl rfl dX9_onPledge_24 ?_
      refine z_iload_n F 1 dX9_onPledge_27 rfl rfl ?_
      refine z_ialdN (j := x) F 1 0 rfl rfl (by omega) (by decide) dX9_onPledge_28 ?_
      refine z_iload_n F 2 dX9_onPledge_29 rfl rfl ?_
      refine z_iadd F dX9_onPledge_30 ?_
      refine z_bipush (v := 99) F dX9_onPledge_31 (by decide) ?_
      refine z_icmp_le (tgt := 40) F dX9_onPledge_33 (by decide) (fun c7 => ?_) (fun c7 => ?_)
      · refine z_iconst (v := 0) F dX9_onPledge_40 (by decide) ?_
        refine z_istore_n (lv' := [(3, .int 0), (0, .ref q0), (1, .int (nI x)), (2, .int u)]) F dX9_onPledge_41 rfl (by decide) rfl ?_
        refine z_iload_n F 0 dX9_onPledge_42 rfl rfl ?_
        refine z_if_eq (tgt := 52) F dX9_onPledge_43 (by decide) (fun c8 => ?_) (fun c8 => ?_)
        · refine z_getsE F (zEnv.ref E) 0 (by decide) rfl (List.mem_cons_of_mem _ (List.mem_append_left _ (List.mem_append_left _ (List.mem_of_getElem? (i := 3) rfl)))) dX9_onPledge_52 ?_
          exact z_eret F hA hQ hlk hr (v := some 0) rfl () (by simp only [f_onPl, z_nn hx8, if_neg c3, if_neg c6, if_pos c7, if_pos c8]) (rfl) dX9_onPledge_55
        · exact absurd (by decide) c8
      · refine z_iconst (v := 1) F dX9_onPledge_36 (by decide) ?_
        refine z_goto (tgt := 41) F dX9_onPledge_37 (by decide) ?_
        refine z_istore_n (lv' := [(3, .int 1), (0, .ref q0), (1, .int (nI x)), (2, .int u)]) F dX9_onPledge_41 rfl (by decide) rfl ?_
        refine z_iload_n F 0 dX9_onPledge_42 rfl rfl ?_
        refine z_if_eq (tgt := 52) F dX9_onPledge_43 (by decide) (fun c9 => ?_) (fun c9 => ?_)
        · exact absurd c9 (by decide)
        · refine z_getsE F (zEnv.ref E) 3 (by decide) rfl (List.mem_cons_of_mem _ (List.mem_append_left _ (List.mem_append_left _ (List.mem_of_getElem? (i := 2) rfl)))) dX9_onPledge_46 ?_
          refine z_goto (tgt := 55) F dX9_onPledge_49 (by decide) ?_
          exact z_eret F hA hQ hlk hr (v := some 3) rfl () (by simp only [f_onPl, z_nn hx8, if_neg c3, if_neg c6, if_neg c7, if_neg c9]) (rfl) dX9_onPledge_55
    · refine z_getsE F (zEnv.ref E) 2 (by decide) rfl (List.mem_cons_of_mem _ (List.mem_append_left _ (List.mem_append_left _ (List.mem_of_getElem? (i := 1) rfl)))) dX9_onPledge_19 ?_
      exact z_eret F hA hQ hlk hr (v := some 2) rfl () (by simp only [f_onPl, z_nn hx8, if_neg c3, if_pos c6]) (rfl) dX9_onPledge_22
  · refine z_getsE F (zEnv.ref E) 1 (by decide) rfl (List.mem_cons_of_mem _ (List.mem_append_left _ (List.mem_append_left _ (List.mem_of_getElem? (i := 0) rfl)))) dX9_onPledge_8 ?_
    exact z_eret F hA hQ hlk hr (v := some 1) rfl () (by simp only [f_onPl, if_pos c3]) (rfl) dX9_onPledge_11
set_option maxHeartbeats 4000000 in
set_option maxRecDepth 100000 in
theorem c_X9_onLimit (l : Launch) (D : va_G) (g : Nat → ClassId) (er : Nat → Nat) (q0 : Nat) (q1 : Nat) (q2 : Nat) (q3 : Nat) (q4 : Nat) (q5 : Nat) (q6 : Nat) (am : Nat → Int32) (mc : Nat) (hc : Int32) (ne : Int32) (lo : Int32) (v : Int32) (u : Int32) (hm : mc ≤ 8) (sz : Nat) : Met l yX9_onLimit wsX9_onLimit { frames := 2, cells := 0, slots := 0, locals := 45 } (zPc D (gT g) (zEnv er) [.ref q0, .int v, .int u] [] [(q0, .inr (7, [.ref q1, .ref q2, .ref q3, .ref q4, .ref q5, .ref q6, .int (nI mc), .int hc, .int ne, .int lo])), (q1, .inl (g 0, 64, .inl am))] sz) (zQe er D [] (fun (r : Option Nat) (_ : Unit) => r = some (f_onLi mc am v u)) (fun _ => []) sz) 0 0 (va_A [] sz) := by
  refine z_met (y := yX9_onLimit) (cc := cX9_onLimit) (nL := 3) (rm := { frames := 2, cells := 0, slots := 0, locals := 45 }) (D := D) (tys := gT g) (wr := [(q0, .inr (7, [.ref q1, .ref q2, .ref q3, .ref q4, .ref q5, .ref q6, .int (nI mc), .int hc, .int ne, .int lo])), (q1, .inl (g 0, 64, .inl am))]) (P0 := zEnv er) (As := [.ref q0, .int v, .int u]) (ww := []) (Qc := zQe er D [] (fun (r : Option Nat) (_ : Unit) => r = some (f_onLi mc am v u)) (fun _ => [])) (ret := (some (.object "DebtClearing$Refusal"))) (by decide) rfl (Nat.le_of_ble_eq_true rfl) ?_ sz
  intro p e s m args below meth c A Q hA hQ F E hr hlk hin
  show zW p l e { frames := 2, cells := 0, slots := 0, locals := 45 } s m args below meth c 3 D A Q 0 0 [] [(0, .ref q0), (1, .int v), (2, .int u)] [] 0
  refine z_aload_n F 0 dX9_onLimit_0 rfl rfl ?_
  refine z_iload_n F 1 dX9_onLimit_1 rfl rfl ?_
  refine z_calli0 F (z_runV (st := []) F zNo_ok trivial (fun sz => c_X5_hasMember l D g q0 q1 q2 q3 q4 q5 q6 mc hc ne lo v sz) (cwV 1 F.1.2.2.2.2 gX9_onLimit_X5_hasMember rfl rfl rfl (by decide +kernel) ⟨Nat.le_of_ble_eq_true rfl, Nat.le_of_ble_eq_true rfl⟩) 0 rfl rfl rfl [] [0] rfl rfl (by decide) rfl rfl (Nat.le_of_ble_eq_true rfl) dX9_onLimit_2 ⟨Nat.le_of_ble_eq_true rfl, Nat.le_of_ble_eq_true rfl⟩) (fun r2 _ hw1 => ?_)
  subst hw1
  refine z_if_ne (tgt := 12) F dX9_onLimit_5 (by decide) (fun c3 => ?_) (fun c3 => ?_)
  · obtain ⟨x, hx, rfl⟩ := z_has c3 hm
    have hx8 : x < 8 := by omega
    refine z_iload_n F 2 dX9_onLimit_12 rfl rfl ?_
    refine z_if_lt (tgt := 23) F dX9_onLimit_13 (by decide) (fun c4 => ?_) (fun c4 => ?_)
    · refine z_getsE F (zEnv.ref E) 2 (by decide) rfl (List.mem_cons_of_mem _ (List.mem_append_left _ (List.mem_append_left _ (List.mem_of_getElem? (i := 1) rfl)))) dX9_onLimit_23 ?_
      exact z_eret F hA hQ hlk hr (v := some 2) rfl () (by simp only [f_onLi, z_nn hx8, if_neg c3, if_pos c4]) (rfl) dX9_onLimit_26
    · refine z_iload_n F 2 dX9_onLimit_16 rfl rfl ?_
      refine z_sipush (v := 500) F dX9_onLimit_17 (by decide) ?_
      refine z_icmp_le (tgt := 27) F dX9_onLimit_20 (by decide) (fun c5 => ?_) (fun c5 => ?_)
      · refine z_aload_n F 0 dX9_onLimit_27 rfl rfl ?_
        refine z_iload_n F 1 dX9_onLimit_28 rfl rfl ?_
        refine z_calli0 F (z_runV (st := []) F zNo_ok trivial (fun sz => c_X5_debitOf l D g q0 q1 q2 q3 q4 q5 q6 am mc hc ne lo x (by omega) sz) (cwV 1 F.1.2.2.2.2 gX9_onLimit_X5_debitOf rfl rfl rfl (by decide +kernel) ⟨Nat.le_of_ble_eq_true rfl, Nat.le_of_ble_eq_true rfl⟩) 0 rfl rfl rfl [] [0, 1] rfl rfl (by decide) rfl rfl (Nat.le_of_ble_eq_true rfl) dX9_onLimit_29 ⟨Nat.le_of_ble_eq_true rfl, Nat.le_of_ble_eq_true rfl⟩) (fun r7 _ hw6 => ?_)
        subst hw6
        refine z_iload_n F 2 dX9_onLimit_32 rfl rfl ?_
        refine z_icmp_le (tgt := 42) F dX9_onLimit_33 (by decide) (fun c8 => ?_) (fun c8 => ?_)
        · refine z_getsE F (zEnv.ref E) 0 (by decide) rfl (List.mem_cons_of_mem _ (List.mem_append_left _ (List.mem_append_left _ (List.mem_of_getElem? (i := 3) rfl)))) dX9_onLimit_42 ?_
          exact z_eret F hA hQ hlk hr (v := some 0) rfl () (by simp only [f_onLi, z_nn hx8, if_neg c3, if_neg c4, if_pos c5, if_pos c8]) (rfl) dX9_onLimit_45
        · refine z_getsE F (zEnv.ref E) 3 (by decide) rfl (List.mem_cons_of_mem _ (List.mem_append_left _ (List.mem_append_left _ (List.mem_of_getElem? (i := 2) rfl)))) dX9_onLimit_36 ?_
          refine z_goto (tgt := 45) F dX9_onLimit_39 (by decide) ?_
          exact z_eret F hA hQ hlk hr (v := some 3) rfl () (by simp only [f_onLi, z_nn hx8, if_neg c3, if_neg c4, if_pos c5, if_neg c8]) (rfl) dX9_onLimit_45
      · refine z_getsE F (zEnv.ref E) 2 (by decide) rfl (List.mem_cons_of_mem _ (List.mem_append_left _ (List.mem_append_left _ (List.mem_of_getElem? (i := 1) rfl)))) dX9_onLimit_23 ?_
        exact z_eret F hA hQ hlk hr (v := some 2) rfl () (by simp only [f_onLi, z_nn hx8, if_neg c3, if_neg c4, if_neg c5]) (rfl) dX9_onLimit_26
  · refine z_getsE F (zEnv.ref E) 1 (by decide) rfl (List.mem_cons_of_mem _ (List.mem_append_left _ (List.mem_append_left _ (List.mem_of_getElem? (i := 0) rfl)))) dX9_onLimit_8 ?_
    exact z_eret F hA hQ hlk hr (v := some 1) rfl () (by simp only [f_onLi, if_pos c3]) (rfl) dX9_onLimit_11
set_option maxHeartbeats 4000000 in
set_option maxRecDepth 100000 in
theorem c_X9_onHaircut (l : Launch) (D : va_G) (g : Nat → ClassId) (er : Nat → Nat) (u : Int32) (sz : Nat) : Met l yX9_onHaircut wsX9_onHaircut { frames := 0, cells := 0, slots := 0, locals := 0 } (zPc D (gT g) (zEnv er) [.int u] [] [] sz) (zQe er D [] (fun (r : Option Nat) (_ : Unit) => r = some (f_onHc u)) (fun _ => []) sz) 0 0 (va_A [] sz) := by
  refine z_met (y := yX9_onHaircut) (cc := cX9_onHaircut) (nL := 1) (rm := { frames := 0, cells := 0, slots := 0, locals := 0 }) (D := D) (tys := gT g) (wr := []) (P0 := zEnv er) (As := [.int u]) (ww := []) (Qc := zQe er D [] (fun (r : Option Nat) (_ : Unit) => r = some (f_onHc u)) (fun _ => [])) (ret := (some (.object "DebtClearing$Refusal"))) (by decide) rfl (Nat.le_of_ble_eq_true rfl) ?_ sz
  intro p e s m args below meth c A Q hA hQ F E hr hlk hin
  show zW p l e { frames := 0, cells := 0, slots := 0, locals := 0 } s m args below meth c 1 D A Q 0 0 [] [(0, .int u)] [] 0
  refine z_iload_n F 0 dX9_onHaircut_0 rfl rfl ?_
  refine z_if_lt (tgt := 10) F dX9_onHaircut_1 (by decide) (fun c1 => ?_) (fun c1 => ?_)
  · refine z_getsE F (zEnv.ref E) 2 (by decide) rfl (List.mem_cons_of_mem _ (List.mem_of_getElem? (i := 0) rfl)) dX9_onHaircut_10 ?_
    refine z_goto (tgt := 19) F dX9_onHaircut_13 (by decide) ?_
    exact z_eret F hA hQ hlk hr (v := some 2) rfl () (by simp only [f_onHc, if_pos c1]) (rfl) dX9_onHaircut_19
  · refine z_iload_n F 0 dX9_onHaircut_4 rfl rfl ?_
    refine z_bipush (v := 90) F dX9_onHaircut_5 (by decide) ?_
    refine z_icmp_le (tgt := 16) F dX9_onHaircut_7 (by decide) (fun c2 => ?_) (fun c2 => ?_)
    · refine z_getsE F (zEnv.ref E) 0 (by decide) rfl (List.mem_cons_of_mem _ (List.mem_of_getElem? (i := 1) rfl)) dX9_onHaircut_16 ?_
      exact z_eret F hA hQ hlk hr (v := some 0) rfl () (by simp only [f_onHc, if_neg c1, if_pos c2]) (rfl) dX9_onHaircut_19
    · refine z_getsE F (zEnv.ref E) 2 (by decide) rfl (List.mem_cons_of_mem _ (List.mem_of_getElem? (i := 0) rfl)) dX9_onHaircut_10 ?_
      refine z_goto (tgt := 19) F dX9_onHaircut_13 (by decide) ?_
      exact z_eret F hA hQ hlk hr (v := some 2) rfl () (by simp only [f_onHc, if_neg c1, if_neg c2]) (rfl) dX9_onHaircut_19
set_option maxHeartbeats 4000000 in
set_option maxRecDepth 100000 in
theorem c_X9_onDefault (l : Launch) (D : va_G) (g : Nat → ClassId) (er : Nat → Nat) (q0 : Nat) (q1 : Nat) (q2 : Nat) (q3 : Nat) (q4 : Nat) (q5 : Nat) (q6 : Nat) (am : Nat → Int32) (co : Nat → Int32) (ca : Nat → Int32) (de : Nat → Int32) (mc : Nat) (hc : Int32) (ne : Int32) (lo : Int32) (v : Int32) (hm : mc ≤ 8) (sz : Nat) : Met l yX9_onDefault wsX9_onDefault { frames := 3, cells := 0, slots := 0, locals := 66 } (zPc D (gT g) (zEnv er) [.ref q0, .int v] [] [(q0, .inr (7, [.ref q1, .ref q2, .ref q3, .ref q4, .ref q5, .ref q6, .int (nI mc), .int hc, .int ne, .int lo])), (q1, .inl (g 0, 64, .inl am)), (q2, .inl (g 0, 8, .inl co)), (q3, .inl (g 0, 8, .inl ca)), (q6, .inl (g 1, 8, .inl de))] sz) (zQe er D [] (fun (r : Option Nat) (_ : Unit) => r = some (f_onDf mc am co ca de hc v)) (fun _ => []) sz) 0 0 (va_A [] sz) := by
  refine z_met (y := yX9_onDefault) (cc := cX9_onDefault) (nL := 3) (rm := { frames := 3, cells := 0, slots := 0, locals := 66 }) (D := D) (tys := gT g) (wr := [(q0, .inr (7, [.ref q1, .ref q2, .ref q3, .ref q4, .ref q5, .ref q6, .int (nI mc), .int hc, .int ne, .int lo])), (q1, .inl (g 0, 64, .inl am)), (q2, .inl (g 0, 8, .inl co)), (q3, .inl (g 0, 8, .inl ca)), (q6, .inl (g 1, 8, .inl de))]) (P0 := zEnv er) (As := [.ref q0, .int v]) (ww := []) (Qc := zQe er D [] (fun (r : Option Nat) (_ : Unit) => r = some (f_onDf mc am co ca de hc v)) (fun _ => [])) (ret := (some (.object "DebtClearing$Refusal"))) (by decide) rfl (Nat.le_of_ble_eq_true rfl) ?_ sz
  intro p e s m args below meth c A Q hA hQ F E hr hlk hin
  show zW p l e { frames := 3, cells := 0, slots := 0, locals := 66 } s m args below meth c 3 D A Q 0 0 [] [(0, .ref q0), (1, .int v)] [] 0
  refine z_aload_n F 0 dX9_onDefault_0 rfl rfl ?_
  refine z_iload_n F 1 dX9_onDefault_1 rfl rfl ?_
  refine z_calli0 F (z_runV (st := []) F zNo_ok trivial (fun sz => c_X5_hasMember l D g q0 q1 q2 q3 q4 q5 q6 mc hc ne lo v sz) (cwV 1 F.1.2.2.2.2 gX9_onDefault_X5_hasMember rfl rfl rfl (by decide +kernel) ⟨Nat.le_of_ble_eq_true rfl, Nat.le_of_ble_eq_true rfl⟩) 0 rfl rfl rfl [] [0] rfl rfl (by decide) rfl rfl (Nat.le_of_ble_eq_true rfl) dX9_onDefault_2 ⟨Nat.le_of_ble_eq_true rfl, Nat.le_of_ble_eq_true rfl⟩) (fun r2 _ hw1 => ?_)
  subst hw1
  refine z_if_ne (tgt := 12) F dX9_onDefault_5 (by decide) (fun c3 => ?_) (fun c3 => ?_)
  · obtain ⟨x, hx, rfl⟩ := z_has c3 hm
    have hx8 : x < 8 := by omega
    refine z_aload_n F 0 dX9_onDefault_12 rfl rfl ?_
    refine z_getN (C := RX5) (T := TX5) (N := 10) F (fun w h => List.mem_cons_of_mem _ (List.mem_append_left _ (List.mem_append_right _ (h)))) 0 rfl rfl 5 (by decide) (zEnv.nf E 11 rfl) rfl rfl dX9_onDefault_13 ?_
    refine z_iload_n F 1 dX9_onDefault_16 rfl rfl ?_
    refine z_zaldN (j := x) F 4 1 rfl rfl (by omega) (by decide) dX9_onDefault_17 ?_
    refine z_if_ne (tgt := 33) F dX9_onDefault_18 (by decide) (fun c4 => ?_) (fun c4 => ?_)
    · refine z_iconst (v := 0) F dX9_onDefault_33 (by decide) ?_
      refine z_istore_n (lv' := [(2, .int 0), (0, .ref q0), (1, .int (nI x))]) F dX9_onDefault_34 rfl (by decide) rfl ?_
      refine z_iload_n F 0 dX9_onDefault_35 rfl rfl ?_
      refine z_if_eq (tgt := 45) F dX9_onDefault_36 (by decide) (fun c5 => ?_) (fun c5 => ?_)
      · refine z_getsE F (zEnv.ref E) 3 (by decide) rfl (List.mem_cons_of_mem _ (List.mem_append_left _ (List.mem_append_left _ (List.mem_append_left _ (List.mem_of_getElem? (i := 2) rfl))))) dX9_onDefault_45 ?_
        exact z_eret F hA hQ hlk hr (v := some 3) rfl () (by simp only [f_onDf, z_nn hx8, if_neg c3, if_neg c4, if_pos c5]) (rfl) dX9_onDefault_48
      · exact absurd (by decide) c5
    · refine z_aload_n F 0 dX9_onDefault_21 rfl rfl ?_
      refine z_iload_n F 1 dX9_onDefault_22 rfl rfl ?_
      refine z_calli0 F (z_runV (st := []) F zNo_ok trivial (fun sz => c_X5_lossOf l D g q0 q1 q2 q3 q4 q5 q6 am co ca mc hc ne lo x (by omega) sz) (cwV 1 F.1.2.2.2.2 gX9_onDefault_X5_lossOf rfl rfl rfl (by decide +kernel) ⟨Nat.le_of_ble_eq_true rfl, Nat.le_of_ble_eq_true rfl⟩) 0 rfl rfl rfl [] [0, 1, 2, 3] rfl rfl (by decide) rfl rfl (Nat.le_of_ble_eq_true rfl) dX9_onDefault_23 ⟨Nat.le_of_ble_eq_true rfl, Nat.le_of_ble_eq_true rfl⟩) (fun r7 _ hw6 => ?_)
      subst hw6
      refine z_if_le (tgt := 33) F dX9_onDefault_26 (by decide) (fun c8 => ?_) (fun c8 => ?_)
      · refine z_iconst (v := 0) F dX9_onDefault_33 (by decide) ?_
        refine z_istore_n (lv' := [(2, .int 0), (0, .ref q0), (1, .int (nI x))]) F dX9_onDefault_34 rfl (by decide) rfl ?_
        refine z_iload_n F 0 dX9_onDefault_35 rfl rfl ?_
        refine z_if_eq (tgt := 45) F dX9_onDefault_36 (by decide) (fun c9 => ?_) (fun c9 => ?_)
        · refine z_getsE F (zEnv.ref E) 3 (by decide) rfl (List.mem_cons_of_mem _ (List.mem_append_left _ (List.mem_append_left _ (List.mem_append_left _ (List.mem_of_getElem? (i := 2) rfl))))) dX9_onDefault_45 ?_
          exact z_eret F hA hQ hlk hr (v := some 3) rfl () (by simp only [f_onDf, z_nn hx8, if_neg c3, if_pos c4, if_pos c8, if_pos c9]) (rfl) dX9_onDefault_48
        · exact absurd (by decide) c9
      · refine z_iconst (v := 1) F dX9_onDefault_29 (by decide) ?_
        refine z_goto (tgt := 34) F dX9_onDefault_30 (by decide) ?_
        refine z_istore_n (lv' := [(2, .int 1), (0, .ref q0), (1, .int (nI x))]) F dX9_onDefault_34 rfl (by decide) rfl ?_
        refine z_iload_n F 0 dX9_onDefault_35 rfl rfl ?_
        refine z_if_eq (tgt := 45) F dX9_onDefault_36 (by decide) (fun c10 => ?_) (fun c10 => ?_)
        · exact absurd c10 (by decide)
        · refine z_getsE F (zEnv.ref E) 0 (by decide) rfl (List.mem_cons_of_mem _ (List.mem_append_left _ (List.mem_append_left _ (List.mem_append_left _ (List.mem_of_getElem? (i := 1) rfl))))) dX9_onDefault_39 ?_
          refine z_goto (tgt := 48) F dX9_onDefault_42 (by decide) ?_
          exact z_eret F hA hQ hlk hr (v := some 0) rfl () (by simp only [f_onDf, z_nn hx8, if_neg c3, if_pos c4, if_neg c8, if_neg c10]) (rfl) dX9_onDefault_48
  · refine z_getsE F (zEnv.ref E) 1 (by decide) rfl (List.mem_cons_of_mem _ (List.mem_append_left _ (List.mem_append_left _ (List.mem_append_left _ (List.mem_of_getElem? (i := 0) rfl))))) dX9_onDefault_8 ?_
    exact z_eret F hA hQ hlk hr (v := some 1) rfl () (by simp only [f_onDf, if_pos c3]) (rfl) dX9_onDefault_11
