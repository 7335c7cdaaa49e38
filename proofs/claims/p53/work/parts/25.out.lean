/-! OUTPUT AS TEXT -/
theorem f_sz_le (v : Int32) : f_sz v ≤ 11 := by
  have h := f_dl_le (f_ab v)
  have h2 : f_sg v ≤ 1 := by unfold f_sg; split <;> omega
  unfold f_sz
  omega
theorem f_sz_pos {v : Int32} (h : 0 < v) : f_sz v ≤ 10 := by
  have h1 := f_dl_le (f_ab v)
  have h2 : f_sg v = 0 := if_neg (fun q => Int32.lt_irrefl (Int32.lt_trans h q))
  unfold f_sz
  omega
theorem f_sz_i {i : Nat} (h : i < 8) : f_sz (nI i) = 1 := by
  have : ∀ i, i < 8 → f_sz (nI i) = 1 := by decide +kernel
  exact this i h
abbrev zTx : Type := Nat × (Nat → Int8)
def tC (T : zTx) (v : Int32) : zTx := (T.1 + 1, fun k => if k = T.1 then v.toInt8 else T.2 k)
def tI (T : zTx) (v : Int32) : zTx := (T.1 + f_sz v, fun k => if k < T.1 then T.2 k else f_dg v (k - T.1))
def t0 : zTx := (0, fun _ => 0)
theorem z_tC {T : zTx} {bn : Nat} {f f9 : Nat → Int8} {v : Int32} (h : bn = T.1 ∧ ∀ k, k < bn → f k = T.2 k) (hs : ∀ k, k < bn → f9 k = f k) (hd : f9 bn = v.toInt8) : bn + 1 = (tC T v).1 ∧ ∀ k, k < bn + 1 → f9 k = (tC T v).2 k := by
  obtain ⟨rfl, hT⟩ := h
  refine ⟨rfl, fun k hk => ?_⟩
  by_cases e : k = T.1
  · subst e
    exact hd.trans (if_pos rfl).symm
  · exact ((hs k (by omega)).trans (hT k (by omega))).trans (if_neg e).symm
theorem z_tI {T : zTx} {bn : Nat} {f f9 : Nat → Int8} {v : Int32} (h : bn = T.1 ∧ ∀ k, k < bn → f k = T.2 k) (hs : ∀ k, k < bn → f9 k = f k) (hd : ∀ t, t < f_sz v → f9 (bn + t) = f_dg v t) : bn + f_sz v = (tI T v).1 ∧ ∀ k, k < bn + f_sz v → f9 k = (tI T v).2 k := by
  obtain ⟨rfl, hT⟩ := h
  refine ⟨rfl, fun k hk => ?_⟩
  by_cases e : k < T.1
  · exact ((hs k e).trans (hT k e)).trans (if_pos e).symm
  · have h1 := hd (k - T.1) (by omega)
    rw [show T.1 + (k - T.1) = k by omega] at h1
    exact h1.trans (if_neg e).symm
/-- the text of the debts of x -/
def f_w0 (co : Nat → Int32) (bo : Nat → Bool) (x : Nat) : zTx := if zBo bo x = 0 then tC (tI t0 (co x)) 99 else tC (tC (tI t0 (co x)) 99) 33
def f_w1 (T : zTx) (i : Nat) (v : Int32) : zTx := if v ≤ 0 then T else tI (tC (tI (tC (tC T 32) 62) (nI i)) 58) v
def f_wN (am co : Nat → Int32) (bo : Nat → Bool) (x : Nat) : Nat → zTx | 0 => f_w0 co bo x | i + 1 => f_w1 (f_wN am co bo x i) i (am (8 * x + i))
def f_w (am co : Nat → Int32) (bo : Nat → Bool) (x : Nat) : zTx := f_wN am co bo x 8
def f_oc (bn : Nat) (v : Int32) : Nat := if v < 0 then 1 else if v < nI bn then 0 else 1
theorem z_ltI {v : Int32} {n : Nat} (h0 : ¬ v < 0) (h : v < nI n) (hn : n < 2147483648) : ∃ x, x < n ∧ v = nI x := by
  rcases pk_ix v (n := n) hn with q | q | q
  · exact absurd q h0
  · exact absurd h (Int32.not_lt.mpr q)
  · exact q
def zEnv2 (er : Nat → Nat) (D : va_G) (g : Nat → ClassId) (dg : Nat → Nat) : zE := fun A U H => zEnv er A U H ∧ zJ D g dg A U H
theorem zEnv2_ok (er : Nat → Nat) (D : va_G) (g : Nat → ClassId) (dg : Nat → Nat) : zOK (zEnv2 er D g dg) := ⟨fun _ _ _ _ h k => ⟨(zEnv_ok er).1 _ _ _ _ h k.1, (zJ_ok D g dg).1 _ _ _ _ h k.2⟩, fun _ _ _ _ h k => ⟨(zEnv_ok er).2.1 _ _ _ _ h k.1, (zJ_ok D g dg).2.1 _ _ _ _ h k.2⟩, fun _ _ _ _ h k => ⟨(zEnv_ok er).2.2 _ _ _ _ h k.1, (zJ_ok D g dg).2.2 _ _ _ _ h k.2⟩⟩
set_option maxHeartbeats 4000000 in
set_option maxRecDepth 100000 in
theorem c_J5_append_c97b9 (l : Launch) (D : va_G) (g : Nat → ClassId) (dg : Nat → Nat) (b0 : Nat) (b1 : Nat) (ml : Int32) (bn : Nat) (bc : Nat) (bp : Nat → Int8) (v : Int32) (hbc : bn ≤ bc) (hb3 : bc ≤ 300) (hb1 : bn ≤ 125) (sz : Nat) : Met l yJ5_append_c97b9 wsJ5_append_c97b9 { frames := 4, cells := 1, slots := 300, locals := 84 } (zPc D (gT g) (zJ D g dg) [.ref b0, .int v] [(b0, .inr (1, [.ref b1, .int 0, .int ml, .int (nI bn)])), (b1, .inl (g 3, bc, .inl ((zBy bp))))] [] sz) (zQe (fun _ => b0) D [(b0, .inr (1, [.ref b1, .int 0, .int ml, .int (nI bn)])), (b1, .inl (g 3, bc, .inl ((zBy bp))))] (fun (r : Option Nat) (u : Nat × Nat × (Nat → Int8)) => r = some 0 ∧ bn + f_sz v ≤ u.2.1 ∧ u.2.1 ≤ 300 ∧ (∀ k, k < bn → u.2.2 k = bp k) ∧ (∀ t, t < f_sz v → u.2.2 (bn + t) = f_dg v t) ∧ (u.2.1 = bc ∨ 2 * bc + 2 ≤ u.2.1)) (fun (u9 : Nat × Nat × (Nat → Int8)) => [(b0, .inr (1, [.ref u9.1, .int 0, .int ml, .int (nI (bn + f_sz v))])), (u9.1, .inl (g 3, u9.2.1, .inl ((zBy u9.2.2))))]) sz) 1 300 (va_A [(b0, .inr (1, [.ref b1, .int 0, .int ml, .int (nI bn)])), (b1, .inl (g 3, bc, .inl ((zBy bp))))] sz) := by
  refine z_met (y := yJ5_append_c97b9) (cc := cJ5_append_c97b9) (nL := 4) (rm := { frames := 4, cells := 1, slots := 300, locals := 84 }) (D := D) (tys := gT g) (wr := []) (P0 := zJ D g dg) (As := [.ref b0, .int v]) (ww := [(b0, .inr (1, [.ref b1, .int 0, .int ml, .int (nI bn)])), (b1, .inl (g 3, bc, .inl ((zBy bp))))]) (Qc := zQe (fun _ => b0) D [(b0, .inr (1, [.ref b1, .int 0, .int ml, .int (nI bn)])), (b1, .inl (g 3, bc, .inl ((zBy bp))))] (fun (r : Option Nat) (u : Nat × Nat × (Nat → Int8)) => r = some 0 ∧ bn + f_sz v ≤ u.2.1 ∧ u.2.1 ≤ 300 ∧ (∀ k, k < bn → u.2.2 k = bp k) ∧ (∀ t, t < f_sz v → u.2.2 (bn + t) = f_dg v t) ∧ (u.2.1 = bc ∨ 2 * bc + 2 ≤ u.2.1)) (fun (u9 : Nat × Nat × (Nat → Int8)) => [(b0, .inr (1, [.ref u9.1, .int 0, .int ml, .int (nI (bn + f_sz v))])), (u9.1, .inl (g 3, u9.2.1, .inl ((zBy u9.2.2))))])) (ret := (some (.object "java/lang/AbstractStringBuilder"))) (by decide) rfl (Nat.le_of_ble_eq_true rfl) ?_ sz
  intro p e s m args below meth c A Q hA hQ F E hr hlk hin
  have hz9 := f_sz_le v
  show zW p l e { frames := 4, cells := 1, slots := 300, locals := 84 } s m args below meth c 4 D A Q 0 0 [(b0, .inr (1, [.ref b1, .int 0, .int ml, .int (nI bn)])), (b1, .inl (g 3, bc, .inl ((zBy bp))))] [(0, .ref b0), (1, .int v)] [] 0
  refine z_aload_n F 0 dJ5_append_c97b9_0 rfl rfl ?_
  refine z_get (C := RJ4) (T := TJ4) (N := 4) F (fun w h => List.mem_cons_of_mem _ (List.mem_append_right _ (h))) 0 rfl rfl 3 (by decide) (List.mem_cons_of_mem _ (List.mem_append_left _ (List.mem_append_left _ (List.mem_of_getElem? (i := 0) rfl)))) rfl rfl dJ5_append_c97b9_1 ?_
  refine z_istore_n (lv' := [(2, .int (nI bn)), (0, .ref b0), (1, .int v)]) F dJ5_append_c97b9_4 rfl (by decide) rfl ?_
  refine z_iload_n F 0 dJ5_append_c97b9_5 rfl rfl ?_
  refine z_iload_n F 2 dJ5_append_c97b9_6 rfl rfl ?_
  refine z_calli0 F (z_runS (st := [.int (nI bn)]) F zNo_ok trivial (fun sz => c_J6_stringSize_0f7a4 l D g v sz) (va_cwS 1 F.1.2.2.2.2 gJ5_append_c97b9_J6_stringSize_0f7a4 rfl rfl rfl (by decide +kernel) ⟨Nat.le_of_ble_eq_true rfl, Nat.le_of_ble_eq_true rfl⟩) [] [] rfl rfl (by decide) rfl rfl (Nat.le_of_ble_eq_true rfl) dJ5_append_c97b9_7 ⟨Nat.le_of_ble_eq_true rfl, Nat.le_of_ble_eq_true rfl⟩) (fun r2 _ hw1 => ?_)
  subst hw1
  refine z_iadd F dJ5_append_c97b9_10 ?_
  refine z_top (y := nI (bn + f_sz v)) (nI_add _ _) ?_
  refine z_istore_n (lv' := [(3, .int (nI (bn + f_sz v))), (2, .int (nI bn)), (0, .ref b0), (1, .int v)]) F dJ5_append_c97b9_11 rfl (by decide) rfl ?_
  refine z_aload_n F 2 dJ5_append_c97b9_12 rfl rfl ?_
  refine z_iload_n F 0 dJ5_append_c97b9_13 rfl rfl ?_
  refine z_callv (wn := []) (wf := fun u4 => [(b0, .inr (1, [.ref u4.1, .int 0, .int ml, .int (nI bn)])), (u4.1, .inl (g 3, u4.2.1, .inl ((zBy u4.2.2))))]) F (z_runU (st := []) F zNo_ok trivial (fun sz => c_J5_ensureCapacityInternal_d00df l D g b0 b1 ml bn bc bp (bn + f_sz v) (hb3) (by omega) sz) (va_cwU 1 F.1.2.2.2.2 gJ5_append_c97b9_J5_ensureCapacityInternal_d00df_u100J4 rfl rfl rfl rfl (by decide +kernel) ⟨Nat.le_of_ble_eq_true rfl, Nat.le_of_ble_eq_true rfl⟩) 0 rfl rfl rfl [0, 1] [] rfl rfl (by decide) rfl rfl (Nat.le_of_ble_eq_true rfl) dJ5_append_c97b9_14 ⟨Nat.le_of_ble_eq_true rfl, Nat.le_of_ble_eq_true rfl⟩) [0, 1] [] [0, 1] rfl rfl (by decide) (by decide) (by decide) (fun _ => rfl) (fun u4 hw3 => ?_)
  obtain ⟨b9_14, c9_14, f9_14⟩ := u4
  obtain ⟨hm9_14, hbc9_14, hc3_14, hsame_14, hcap_14⟩ := hw3
  try dsimp only at hm9_14
  try dsimp only at hbc9_14
  try dsimp only at hc3_14
  try dsimp only at hsame_14
  try dsimp only at hcap_14
  refine z_aload_n F 2 dJ5_append_c97b9_17 rfl rfl ?_
  refine z_calli0 F (z_runU (st := []) F ((zJ_ok D g dg)) E (fun sz => c_J5_isLatin1_aae02 l D g dg b0 b9_14 ml bn sz) (va_cwU 0 F.1.2.2.2.2 gJ5_append_c97b9_J5_isLatin1_aae02_u83J4 rfl rfl rfl rfl (by decide +kernel) ⟨Nat.le_of_ble_eq_true rfl, Nat.le_of_ble_eq_true rfl⟩) 0 rfl rfl rfl [] [0] rfl rfl (by decide) rfl rfl (Nat.le_of_ble_eq_true rfl) dJ5_append_c97b9_18 ⟨Nat.le_of_ble_eq_true rfl, Nat.le_of_ble_eq_true rfl⟩) (fun r6 _ hw5 => ?_)
  subst hw5
  refine z_if_eq (tgt := 37) F dJ5_append_c97b9_21 (by decide) (fun c7 => ?_) (fun c7 => ?_)
  · exact absurd c7 (by decide)
  · refine z_iload_n F 3 dJ5_append_c97b9_24 rfl rfl ?_
    refine z_iload_n F 0 dJ5_append_c97b9_25 rfl rfl ?_
    refine z_aload_n F 2 dJ5_append_c97b9_26 rfl rfl ?_
    refine z_get (C := RJ4) (T := TJ4) (N := 4) F (fun w h => List.mem_cons_of_mem _ (List.mem_append_right _ (h))) 0 rfl rfl 0 (by decide) (List.mem_cons_of_mem _ (List.mem_append_left _ (List.mem_append_left _ (List.mem_of_getElem? (i := 1) rfl)))) rfl rfl dJ5_append_c97b9_27 ?_
    refine z_calli (wn := [(b0, .inr (1, [.ref b9_14, .int 0, .int ml, .int (nI bn)]))]) (wf := fun u9 => [(b0, .inr (1, [.ref b9_14, .int 0, .int ml, .int (nI bn)])), (b9_14, .inl (g 3, c9_14, .inl ((zBy u9))))]) F (z_runS (st := []) F ((zJ_ok D g dg)) E (fun sz => c_J6_getChars_ba4f3 l D g dg b9_14 c9_14 f9_14 v (bn + f_sz v) (by omega) (hm9_14) (hc3_14) sz) (va_cwS 3 F.1.2.2.2.2 gJ5_append_c97b9_J6_getChars_ba4f3 rfl rfl rfl (by decide +kernel) ⟨Nat.le_of_ble_eq_true rfl, Nat.le_of_ble_eq_true rfl⟩) [1] [] rfl rfl (by decide) rfl rfl (Nat.le_of_ble_eq_true rfl) dJ5_append_c97b9_30 ⟨Nat.le_of_ble_eq_true rfl, Nat.le_of_ble_eq_true rfl⟩) [1] [0] [0, 1] rfl rfl (by decide) (by decide) (by decide) (fun _ => rfl) (fun r10 u9 hw8 => ?_)
    obtain ⟨f9_30, he30⟩ : ∃ z9, z9 = u9 := ⟨_, rfl⟩
    subst he30
    obtain ⟨hret_30, hsame_30, hdig_30⟩ := hw8
    try dsimp only at hret_30
    try dsimp only at hsame_30
    try dsimp only at hdig_30
    refine z_pop F dJ5_append_c97b9_33 rfl ?_
    refine z_goto (tgt := 48) F dJ5_append_c97b9_34 (by decide) ?_
    refine z_aload_n F 2 dJ5_append_c97b9_48 rfl rfl ?_
    refine z_iload_n F 0 dJ5_append_c97b9_49 rfl rfl ?_
    refine z_put (C := RJ4) (T := TJ4) (N := 4) (ty := .int) (ws' := [(b0, .inr (1, [.ref b9_14, .int 0, .int ml, .int (nI (bn + f_sz v))])), (b9_14, .inl (g 3, c9_14, .inl ((zBy f9_30))))]) F (fun w h => List.mem_cons_of_mem _ (List.mem_append_right _ (h))) tyJ4 tyJ4_ok nmJ4 0 rfl rfl 3 (by decide) (List.mem_cons_of_mem _ (List.mem_append_left _ (List.mem_append_left _ (List.mem_of_getElem? (i := 0) rfl)))) rfl rfl (by decide +kernel) (rfl) (rfl) (Nat.le_of_ble_eq_true rfl) rfl dJ5_append_c97b9_50 ?_
    refine z_aload_n F 2 dJ5_append_c97b9_53 rfl rfl ?_
    refine z_wide (k := 1) (n := 300) (by first | exact Nat.le_refl _ | omega) (by first | exact Nat.le_refl _ | omega) ?_
    exact z_eret F hA hQ hlk hr (v := some 0) rfl (b9_14, c9_14, f9_30) (⟨rfl, by dsimp only; omega, by dsimp only; omega, fun k hk => (hsame_30 k (Or.inl (by omega))).trans (hsame_14 k (by omega)), fun t ht => by have h9 := hdig_30 t ht; rw [show bn + f_sz v - f_sz v + t = bn + t by omega] at h9; exact h9, hcap_14⟩) (rfl) dJ5_append_c97b9_54
set_option maxHeartbeats 4000000 in
set_option maxRecDepth 100000 in
theorem c_J4_append_bf812 (l : Launch) (D : va_G) (g : Nat → ClassId) (dg : Nat → Nat) (b0 : Nat) (b1 : Nat) (ml : Int32) (bn : Nat) (bc : Nat) (bp : Nat → Int8) (v : Int32) (hbc : bn ≤ bc) (hb3 : bc ≤ 300) (hb1 : bn ≤ 125) (sz : Nat) : Met l yJ4_append_bf812 wsJ4_append_bf812 { frames := 5, cells := 1, slots := 300, locals := 107 } (zPc D (gT g) (zJ D g dg) [.ref b0, .int v] [(b0, .inr (1, [.ref b1, .int 0, .int ml, .int (nI bn)])), (b1, .inl (g 3, bc, .inl ((zBy bp))))] [] sz) (zQe (fun _ => b0) D [(b0, .inr (1, [.ref b1, .int 0, .int ml, .int (nI bn)])), (b1, .inl (g 3, bc, .inl ((zBy bp))))] (fun (r : Option Nat) (u : Nat × Nat × (Nat → Int8)) => r = some 0 ∧ bn + f_sz v ≤ u.2.1 ∧ u.2.1 ≤ 300 ∧ (∀ k, k < bn → u.2.2 k = bp k) ∧ (∀ t, t < f_sz v → u.2.2 (bn + t) = f_dg v t) ∧ (u.2.1 = bc ∨ 2 * bc + 2 ≤ u.2.1)) (fun (u9 : Nat × Nat × (Nat → Int8)) => [(b0, .inr (1, [.ref u9.1, .int 0, .int ml, .int (nI (bn + f_sz v))])), (u9.1, .inl (g 3, u9.2.1, .inl ((zBy u9.2.2))))]) sz) 1 300 (va_A [(b0, .inr (1, [.ref b1, .int 0, .int ml, .int (nI bn)])), (b1, .inl (g 3, bc, .inl ((zBy bp))))] sz) := by
  refine z_met (y := yJ4_append_bf812) (cc := cJ4_append_bf812) (nL := 2) (rm := { frames := 5, cells := 1, slots := 300, locals := 107 }) (D := D) (tys := gT g) (wr := []) (P0 := zJ D g dg) (As := [.ref b0, .int v]) (ww := [(b0, .inr (1, [.ref b1, .int 0, .int ml, .int (nI bn)])), (b1, .inl (g 3, bc, .inl ((zBy bp))))]) (Qc := zQe (fun _ => b0) D [(b0, .inr (1, [.ref b1, .int 0, .int ml, .int (nI bn)])), (b1, .inl (g 3, bc, .inl ((zBy bp))))] (fun (r : Option Nat) (u : Nat × Nat × (Nat → Int8)) => r = some 0 ∧ bn + f_sz v ≤ u.2.1 ∧ u.2.1 ≤ 300 ∧ (∀ k, k < bn → u.2.2 k = bp k) ∧ (∀ t, t < f_sz v → u.2.2 (bn + t) = f_dg v t) ∧ (u.2.1 = bc ∨ 2 * bc + 2 ≤ u.2.1)) (fun (u9 : Nat × Nat × (Nat → Int8)) => [(b0, .inr (1, [.ref u9.1, .int 0, .int ml, .int (nI (bn + f_sz v))])), (u9.1, .inl (g 3, u9.2.1, .inl ((zBy u9.2.2))))])) (ret := (some (.object "java/lang/StringBuilder"))) (by decide) rfl (Nat.le_of_ble_eq_true rfl) ?_ sz
  intro p e s m args below meth c A Q hA hQ F E hr hlk hin
  show zW p l e { frames := 5, cells := 1, slots := 300, locals := 107 } s m args below meth c 2 D A Q 0 0 [(b0, .inr (1, [.ref b1, .int 0, .int ml, .int (nI bn)])), (b1, .inl (g 3, bc, .inl ((zBy bp))))] [(0, .ref b0), (1, .int v)] [] 0
  refine z_aload_n F 0 dJ4_append_bf812_0 rfl rfl ?_
  refine z_iload_n F 1 dJ4_append_bf812_1 rfl rfl ?_
  refine z_calle (wn := []) (wf := fun u2 => [(b0, .inr (1, [.ref u2.1, .int 0, .int ml, .int (nI (bn + f_sz v))])), (u2.1, .inl (g 3, u2.2.1, .inl ((zBy u2.2.2))))]) F (z_runSU (st := []) F ((zJ_ok D g dg)) E (fun sz => c_J5_append_c97b9 l D g dg b0 b1 ml bn bc bp v (hbc) (hb3) (hb1) sz) (va_cwSU 1 F.1.2.2.2.2 gJ4_append_bf812_J5_append_c97b9_s53 rfl rfl rfl (by decide +kernel) ⟨Nat.le_of_ble_eq_true rfl, Nat.le_of_ble_eq_true rfl⟩) 0 rfl rfl rfl [0, 1] [] rfl rfl (by decide) rfl rfl (Nat.le_of_ble_eq_true rfl) dJ4_append_bf812_2 ⟨Nat.le_of_ble_eq_true rfl, Nat.le_of_ble_eq_true rfl⟩) [0, 1] [] [0, 1] rfl rfl (by decide) (by decide) (by decide) (fun _ => rfl) (fun r3 u2 hw1 => ?_)
  obtain ⟨b9_2, c9_2, f9_2⟩ := u2
  obtain ⟨r2_, hcc_2, hc3_2, hsame_2, hdig_2, hcap_2⟩ := hw1
  try dsimp only at hcc_2
  try dsimp only at hc3_2
  try dsimp only at hsame_2
  try dsimp only at hdig_2
  try dsimp only at hcap_2
  subst r2_
  refine z_st (st' := [.ref b0]) rfl ?_
  refine z_pop F dJ4_append_bf812_5 rfl ?_
  refine z_aload_n F 0 dJ4_append_bf812_6 rfl rfl ?_
  refine z_wide (k := 1) (n := 300) (Nat.le_of_ble_eq_true rfl) (Nat.le_of_ble_eq_true rfl) ?_
  exact z_eret F hA hQ hlk hr (v := some 0) rfl (b9_2, c9_2, f9_2) (⟨rfl, hcc_2, hc3_2, hsame_2, hdig_2, hcap_2⟩) (rfl) dJ4_append_bf812_7
set_option maxHeartbeats 4000000 in
set_option maxRecDepth 100000 in
theorem c_J5_setLength_d00df (l : Launch) (D : va_G) (g : Nat → ClassId) (dg : Nat → Nat) (b0 : Nat) (b1 : Nat) (ml : Int32) (bn : Nat) (bc : Nat) (bp : Nat → Int8) (hbc : bn ≤ bc) (hb3 : bc ≤ 300) (sz : Nat) : Met l yJ5_setLength_d00df wsJ5_setLength_d00df { frames := 4, cells := 1, slots := 300, locals := 84 } (zPc D (gT g) (zJ D g dg) [.ref b0, .int 0] [(b0, .inr (1, [.ref b1, .int 0, .int ml, .int (nI bn)])), (b1, .inl (g 3, bc, .inl ((zBy bp))))] [] sz) (zQv D [(b0, .inr (1, [.ref b1, .int 0, .int ml, .int (nI bn)])), (b1, .inl (g 3, bc, .inl ((zBy bp))))] (fun (u : Nat × Nat × (Nat → Int8) × Int32) => u.2.1 ≤ 300) (fun (u9 : Nat × Nat × (Nat → Int8) × Int32) => [(b0, .inr (1, [.ref u9.1, .int 0, .int u9.2.2.2, .int 0])), (u9.1, .inl (g 3, u9.2.1, .inl ((zBy u9.2.2.1))))]) sz) 1 300 (va_A [(b0, .inr (1, [.ref b1, .int 0, .int ml, .int (nI bn)])), (b1, .inl (g 3, bc, .inl ((zBy bp))))] sz) := by
  refine z_met (y := yJ5_setLength_d00df) (cc := cJ5_setLength_d00df) (nL := 2) (rm := { frames := 4, cells := 1, slots := 300, locals := 84 }) (D := D) (tys := gT g) (wr := []) (P0 := zJ D g dg) (As := [.ref b0, .int 0]) (ww := [(b0, .inr (1, [.ref b1, .int 0, .int ml, .int (nI bn)])), (b1, .inl (g 3, bc, .inl ((zBy bp))))]) (Qc := zQv D [(b0, .inr (1, [.ref b1, .int 0, .int ml, .int (nI bn)])), (b1, .inl (g 3, bc, .inl ((zBy bp))))] (fun (u : Nat × Nat × (Nat → Int8) × Int32) => u.2.1 ≤ 300) (fun (u9 : Nat × Nat × (Nat → Int8) × Int32) => [(b0, .inr (1, [.ref u9.1, .int 0, .int u9.2.2.2, .int 0])), (u9.1, .inl (g 3, u9.2.1, .inl ((zBy u9.2.2.1))))])) (ret := none) (by decide) rfl (Nat.le_of_ble_eq_true rfl) ?_ sz
  intro p e s m args below meth c A Q hA hQ F E hr hlk hin
  show zW p l e { frames := 4, cells := 1, slots := 300, locals := 84 } s m args below meth c 2 D A Q 0 0 [(b0, .inr (1, [.ref b1, .int 0, .int ml, .int (nI bn)])), (b1, .inl (g 3, bc, .inl ((zBy bp))))] [(0, .ref b0), (1, .int 0)] [] 0
  refine z_iload_n F 1 dJ5_setLength_d00df_0 rfl rfl ?_
  refine z_if_ge (tgt := 13) F dJ5_setLength_d00df_1 (by decide) (fun c1 => ?_) (fun c1 => ?_)
  · refine z_aload_n F 0 dJ5_setLength_d00df_13 rfl rfl ?_
    refine z_iload_n F 1 dJ5_setLength_d00df_14 rfl rfl ?_
    refine z_callv (wn := []) (wf := fun u3 => [(b0, .inr (1, [.ref u3.1, .int 0, .int ml, .int (nI bn)])), (u3.1, .inl (g 3, u3.2.1, .inl ((zBy u3.2.2))))]) F (z_runU (st := []) F zNo_ok trivial (fun sz => c_J5_ensureCapacityInternal_d00df l D g b0 b1 ml bn bc bp 0 (hb3) (by omega) sz) (va_cwU 1 F.1.2.2.2.2 gJ5_setLength_d00df_J5_ensureCapacityInternal_d00df_u100J4 rfl rfl rfl rfl (by decide +kernel) ⟨Nat.le_of_ble_eq_true rfl, Nat.le_of_ble_eq_true rfl⟩) 0 rfl rfl rfl [0, 1] [] rfl rfl (by decide) rfl rfl (Nat.le_of_ble_eq_true rfl) dJ5_setLength_d00df_15 ⟨Nat.le_of_ble_eq_true rfl, Nat.le_of_ble_eq_true rfl⟩) [0, 1] [] [0, 1] rfl rfl (by decide) (by decide) (by decide) (fun _ => rfl) (fun u3 hw2 => ?_)
    obtain ⟨b9_15, c9_15, f9_15⟩ := u3
    obtain ⟨hm9_15, hbc9_15, hc3_15, hsame_15, hcap_15⟩ := hw2
    try dsimp only at hm9_15
    try dsimp only at hbc9_15
    try dsimp only at hc3_15
    try dsimp only at hsame_15
    try dsimp only at hcap_15
    refine z_aload_n F 0 dJ5_setLength_d00df_18 rfl rfl ?_
    refine z_get (C := RJ4) (T := TJ4) (N := 4) F (fun w h => List.mem_cons_of_mem _ (List.mem_append_left _ (List.mem_append_right _ (h)))) 0 rfl rfl 3 (by decide) (List.mem_cons_of_mem _ (List.mem_append_left _ (List.mem_append_left _ (List.mem_append_left _ (List.mem_append_left _ (List.mem_of_getElem? (i := 3) rfl)))))) rfl rfl dJ5_setLength_d00df_19 ?_
    refine z_iload_n F 1 dJ5_setLength_d00df_22 rfl rfl ?_
    refine z_icmp_ge (tgt := 63) F dJ5_setLength_d00df_23 (by decide) (fun c4 => ?_) (fun c4 => ?_)
    · refine z_aload_n F 0 dJ5_setLength_d00df_63 rfl rfl ?_
      refine z_get (C := RJ4) (T := TJ4) (N := 4) F (fun w h => List.mem_cons_of_mem _ (List.mem_append_left _ (List.mem_append_right _ (h)))) 0 rfl rfl 3 (by decide) (List.mem_cons_of_mem _ (List.mem_append_left _ (List.mem_append_left _ (List.mem_append_left _ (List.mem_append_left _ (List.mem_of_getElem? (i := 3) rfl)))))) rfl rfl dJ5_setLength_d00df_64 ?_
      refine z_iload_n F 1 dJ5_setLength_d00df_67 rfl rfl ?_
      refine z_icmp_le (tgt := 76) F dJ5_setLength_d00df_68 (by decide) (fun c5 => ?_) (fun c5 => ?_)
      · refine z_aload_n F 0 dJ5_setLength_d00df_76 rfl rfl ?_
        refine z_iload_n F 1 dJ5_setLength_d00df_77 rfl rfl ?_
        refine z_put (C := RJ4) (T := TJ4) (N := 4) (ty := .int) (ws' := [(b0, .inr (1, [.ref b9_15, .int 0, .int ml, .int 0])), (b9_15, .inl (g 3, c9_15, .inl ((zBy f9_15))))]) F (fun w h => List.mem_cons_of_mem _ (List.mem_append_left _ (List.mem_append_right _ (h)))) tyJ4 tyJ4_ok nmJ4 0 rfl rfl 3 (by decide) (List.mem_cons_of_mem _ (List.mem_append_left _ (List.mem_append_left _ (List.mem_append_left _ (List.mem_append_left _ (List.mem_of_getElem? (i := 3) rfl)))))) rfl rfl (by decide +kernel) (rfl) (rfl) (Nat.le_of_ble_eq_true rfl) rfl dJ5_setLength_d00df_78 ?_
        refine z_wide (k := 1) (n := 300) (Nat.le_of_ble_eq_true rfl) (Nat.le_of_ble_eq_true rfl) ?_
        exact z_vret F hA hQ hlk hr (b9_15, c9_15, f9_15, ml) (hc3_15) (rfl) dJ5_setLength_d00df_81
      · refine z_aload_n F 0 dJ5_setLength_d00df_71 rfl rfl ?_
        refine z_iconst (v := 1) F dJ5_setLength_d00df_72 (by decide) ?_
        refine z_put (C := RJ4) (T := TJ4) (N := 4) (ty := .boolean) (ws' := [(b0, .inr (1, [.ref b9_15, .int 0, .int 1, .int (nI bn)])), (b9_15, .inl (g 3, c9_15, .inl ((zBy f9_15))))]) F (fun w h => List.mem_cons_of_mem _ (List.mem_append_left _ (List.mem_append_right _ (h)))) tyJ4 tyJ4_ok nmJ4 0 rfl rfl 2 (by decide) (List.mem_cons_of_mem _ (List.mem_append_left _ (List.mem_append_left _ (List.mem_append_left _ (List.mem_append_left _ (List.mem_of_getElem? (i := 5) rfl)))))) rfl rfl (by decide +kernel) (rfl) (rfl) (Nat.le_of_ble_eq_true rfl) rfl dJ5_setLength_d00df_73 ?_
        refine z_aload_n F 0 dJ5_setLength_d00df_76 rfl rfl ?_
        refine z_iload_n F 1 dJ5_setLength_d00df_77 rfl rfl ?_
        refine z_put (C := RJ4) (T := TJ4) (N := 4) (ty := .int) (ws' := [(b0, .inr (1, [.ref b9_15, .int 0, .int 1, .int 0])), (b9_15, .inl (g 3, c9_15, .inl ((zBy f9_15))))]) F (fun w h => List.mem_cons_of_mem _ (List.mem_append_left _ (List.mem_append_right _ (h)))) tyJ4 tyJ4_ok nmJ4 0 rfl rfl 3 (by decide) (List.mem_cons_of_mem _ (List.mem_append_left _ (List.mem_append_left _ (List.mem_append_left _ (List.mem_append_left _ (List.mem_of_getElem? (i := 3) rfl)))))) rfl rfl (by decide +kernel) (rfl) (rfl) (Nat.le_of_ble_eq_true rfl) rfl dJ5_setLength_d00df_78 ?_
        refine z_wide (k := 1) (n := 300) (Nat.le_of_ble_eq_true rfl) (Nat.le_of_ble_eq_true rfl) ?_
        exact z_vret F hA hQ hlk hr (b9_15, c9_15, f9_15, 1) (hc3_15) (rfl) dJ5_setLength_d00df_81
    · exact absurd ((nI_leI (by decide : 0 < 2 ^ 31) (by omega)).mpr (Nat.zero_le bn)) c4
  · exact absurd (by decide) c1
set_option maxHeartbeats 4000000 in
set_option maxRecDepth 100000 in
theorem c_J4_setLength_d00df (l : Launch) (D : va_G) (g : Nat → ClassId) (dg : Nat → Nat) (b0 : Nat) (b1 : Nat) (ml : Int32) (bn : Nat) (bc : Nat) (bp : Nat → Int8) (hbc : bn ≤ bc) (hb3 : bc ≤ 300) (sz : Nat) : Met l yJ4_setLength_d00df wsJ4_setLength_d00df { frames := 5, cells := 1, slots := 300, locals := 105 } (zPc D (gT g) (zJ D g dg) [.ref b0, .int 0] [(b0, .inr (1, [.ref b1, .int 0, .int ml, .int (nI bn)])), (b1, .inl (g 3, bc, .inl ((zBy bp))))] [] sz) (zQv D [(b0, .inr (1, [.ref b1, .int 0, .int ml, .int (nI bn)])), (b1, .inl (g 3, bc, .inl ((zBy bp))))] (fun (u : Nat × Nat × (Nat → Int8) × Int32) => u.2.1 ≤ 300) (fun (u9 : Nat × Nat × (Nat → Int8) × Int32) => [(b0, .inr (1, [.ref u9.1, .int 0, .int u9.2.2.2, .int 0])), (u9.1, .inl (g 3, u9.2.1, .inl ((zBy u9.2.2.1))))]) sz) 1 300 (va_A [(b0, .inr (1, [.ref b1, .int 0, .int ml, .int (nI bn)])), (b1, .inl (g 3, bc, .inl ((zBy bp))))] sz) := by
  refine z_met (y := yJ4_setLength_d00df) (cc := cJ4_setLength_d00df) (nL := 2) (rm := { frames := 5, cells := 1, slots := 300, locals := 105 }) (D := D) (tys := gT g) (wr := []) (P0 := zJ D g dg) (As := [.ref b0, .int 0]) (ww := [(b0, .inr (1, [.ref b1, .int 0, .int ml, .int (nI bn)])), (b1, .inl (g 3, bc, .inl ((zBy bp))))]) (Qc := zQv D [(b0, .inr (1, [.ref b1, .int 0, .int ml, .int (nI bn)])), (b1, .inl (g 3, bc, .inl ((zBy bp))))] (fun (u : Nat × Nat × (Nat → Int8) × Int32) => u.2.1 ≤ 300) (fun (u9 : Nat × Nat × (Nat → Int8) × Int32) => [(b0, .inr (1, [.ref u9.1, .int 0, .int u9.2.2.2, .int 0])), (u9.1, .inl (g 3, u9.2.1, .inl ((zBy u9.2.2.1))))])) (ret := none) (by decide) rfl (Nat.le_of_ble_eq_true rfl) ?_ sz
  intro p e s m args below meth c A Q hA hQ F E hr hlk hin
  show zW p l e { frames := 5, cells := 1, slots := 300, locals := 105 } s m args below meth c 2 D A Q 0 0 [(b0, .inr (1, [.ref b1, .int 0, .int ml, .int (nI bn)])), (b1, .inl (g 3, bc, .inl ((zBy bp))))] [(0, .ref b0), (1, .int 0)] [] 0
  refine z_aload_n F 0 dJ4_setLength_d00df_0 rfl rfl ?_
  refine z_iload_n F 1 dJ4_setLength_d00df_1 rfl rfl ?_
  refine z_callv (wn := []) (wf := fun u2 => [(b0, .inr (1, [.ref u2.1, .int 0, .int u2.2.2.2, .int 0])), (u2.1, .inl (g 3, u2.2.1, .inl ((zBy u2.2.2.1))))]) F (z_runSU (st := []) F ((zJ_ok D g dg)) E (fun sz => c_J5_setLength_d00df l D g dg b0 b1 ml bn bc bp (hbc) (hb3) sz) (va_cwSU 1 F.1.2.2.2.2 gJ4_setLength_d00df_J5_setLength_d00df_s333 rfl rfl rfl (by decide +kernel) ⟨Nat.le_of_ble_eq_true rfl, Nat.le_of_ble_eq_true rfl⟩) 0 rfl rfl rfl [0, 1] [] rfl rfl (by decide) rfl rfl (Nat.le_of_ble_eq_true rfl) dJ4_setLength_d00df_2 ⟨Nat.le_of_ble_eq_true rfl, Nat.le_of_ble_eq_true rfl⟩) [0, 1] [] [0, 1] rfl rfl (by decide) (by decide) (by decide) (fun _ => rfl) (fun u2 hw1 => ?_)
  obtain ⟨b9_2, c9_2, f9_2, ml9_2⟩ := u2
  have hc3_2 := hw1
  try dsimp only at hc3_2
  refine z_wide (k := 1) (n := 300) (Nat.le_of_ble_eq_true rfl) (Nat.le_of_ble_eq_true rfl) ?_
  exact z_vret F hA hQ hlk hr (b9_2, c9_2, f9_2, ml9_2) (hc3_2) (rfl) dJ4_setLength_d00df_5
set_option maxHeartbeats 4000000 in
set_option maxRecDepth 100000 in
theorem c_X10_outputChar (l : Launch) (hl9 : l.stackTraces = false) (D : va_G) (g : Nat → ClassId) (er : Nat → Nat) (dg : Nat → Nat) (a : Nat → Nat) (hs : Int32) (ep : Int32) (fc : Int32) (ob : Nat) (oc : Nat) (obp : Nat → Int8) (ml : Int32) (bn : Nat) (v : Int32) (hbc : bn ≤ oc) (hb3 : oc ≤ 300) (sz : Nat) : vx_Met l yX10_outputChar wsX10_outputChar { frames := 6, cells := 1, slots := 6, locals := 88 } (zPc D (gT g) (zEnv2 er D g dg) [.ref (a 0), .int v] [] [(a 0, .inr (10, [.ref (a 1), .ref (a 8), .ref (a 15), .ref (a 22), .ref (a 24), .ref (a 27), .ref (a 33), .ref (a 91), .ref (a 94), .int hs, .int ep, .int fc])), (a 94, .inr (1, [.ref ob, .int 0, .int ml, .int (nI bn)])), (ob, .inl (g 3, oc, .inl ((zBy obp))))] sz) (zQi D [] (fun (r : Int32) (_ : Unit) => f_oc bn v = 0 ∧ r = f_ch (zBy obp (z_n v))) (fun _ => []) sz) (zXC D [] (fun (E : String) (_ : Unit) => E = zExc (f_oc bn v) ∧ ¬ (f_oc bn v) = 0) (fun _ => []) sz) 1 6 (va_A [] sz) := by
  refine z_metX (y := yX10_outputChar) (XC := zXC D [] (fun (E : String) (_ : Unit) => E = zExc (f_oc bn v) ∧ ¬ (f_oc bn v) = 0) (fun _ => [])) (cc := cX10_outputChar) (nL := 2) (rm := { frames := 6, cells := 1, slots := 6, locals := 88 }) (D := D) (tys := gT g) (wr := [(a 0, .inr (10, [.ref (a 1), .ref (a 8), .ref (a 15), .ref (a 22), .ref (a 24), .ref (a 27), .ref (a 33), .ref (a 91), .ref (a 94), .int hs, .int ep, .int fc])), (a 94, .inr (1, [.ref ob, .int 0, .int ml, .int (nI bn)])), (ob, .inl (g 3, oc, .inl ((zBy obp))))]) (P0 := zEnv2 er D g dg) (As := [.ref (a 0), .int v]) (ww := []) (Qc := zQi D [] (fun (r : Int32) (_ : Unit) => f_oc bn v = 0 ∧ r = f_ch (zBy obp (z_n v))) (fun _ => [])) (ret := (some .char)) (by decide) rfl (Nat.le_of_ble_eq_true rfl) ?_ sz
  intro p e s m args below meth c A Q hA hQ F E hr hlk hx9
  show zW p l e { frames := 6, cells := 1, slots := 6, locals := 88 } s m args below meth c 2 D A Q 0 0 [] [(0, .ref (a 0)), (1, .int v)] [] 0
  refine z_iload_n F 1 dX10_outputChar_0 rfl rfl ?_
  refine z_if_lt (tgt := 15) F dX10_outputChar_1 (by decide) (fun c1 => ?_) (fun c1 => ?_)
  · have h1 := c1
    exact z_throwW (names := ["java/lang/RuntimeException", "java/lang/Exception"]) (B := zB9 "java/lang/IndexOutOfBoundsException") F hA hQ hl9 hx9 hlk (by decide) (by decide) (List.mem_cons_of_mem _ (List.mem_append_left _ (List.mem_append_left _ (List.mem_append_left _ (List.mem_append_left _ (List.mem_of_getElem? (i := 0) rfl)))))) (List.mem_cons_of_mem _ (List.mem_append_left _ (List.mem_append_left _ (List.mem_append_left _ (List.mem_append_left _ (List.mem_of_getElem? (i := 1) rfl)))))) (zEnv.str E.1 9 rfl) (fun w h => List.mem_cons_of_mem _ (List.mem_append_right _ (h))) (by decide +kernel) (zEnv.b9 E.1 3 rfl) (by decide +kernel) (by decide +kernel) (zEnv.zu E.1) (zEnv.zn E.1) dX10_outputChar_15 dX10_outputChar_18 dX10_outputChar_19 dX10_outputChar_22 dX10_outputChar_25 (Nat.le_of_ble_eq_true rfl) (Nat.le_of_ble_eq_true rfl) (Nat.le_of_ble_eq_true rfl) (Nat.le_of_ble_eq_true rfl) (Nat.le_of_ble_eq_true rfl) (Nat.le_of_ble_eq_true rfl) () (⟨by rw [f_oc, if_pos h1]; rfl, by rw [f_oc, if_pos h1]; decide⟩) (rfl)
  · have h0 := c1
    refine z_iload_n F 1 dX10_outputChar_4 rfl rfl ?_
    refine z_aload_n F 0 dX10_outputChar_5 rfl rfl ?_
    refine z_get (C := RX10) (T := TX10) (N := 12) F (fun w h => List.mem_cons_of_mem _ (List.mem_append_left _ (List.mem_append_left _ (List.mem_append_right _ (h))))) 0 rfl rfl 8 (by decide) (List.mem_cons_of_mem _ (List.mem_append_left _ (List.mem_append_left _ (List.mem_append_left _ (List.mem_append_left _ (List.mem_of_getElem? (i := 2) rfl)))))) rfl rfl dX10_outputChar_6 ?_
    refine z_calli0 F (z_runV (st := [.int v]) F zNo_ok trivial (fun sz => c_J4_length_8abf5 l D g (a 94) ob ml bn sz) (cwV 0 F.1.2.2.2.2 gX10_outputChar_J4_length_8abf5 rfl rfl rfl (by decide +kernel) ⟨Nat.le_of_ble_eq_true rfl, Nat.le_of_ble_eq_true rfl⟩) 1 rfl rfl rfl [] [1] rfl rfl (by decide) rfl rfl (Nat.le_of_ble_eq_true rfl) dX10_outputChar_9 ⟨Nat.le_of_ble_eq_true rfl, Nat.le_of_ble_eq_true rfl⟩) (fun r3 _ hw2 => ?_)
    subst hw2
    refine z_icmp_lt (tgt := 26) F dX10_outputChar_12 (by decide) (fun c4 => ?_) (fun c4 => ?_)
    · have h2 := c4
      obtain ⟨x, hx, e1⟩ := z_ltI h0 h2 (by omega)
      subst e1
      have hxz : z_n (nI x) = x := nI_clamp (by omega)
      refine z_aload_n F 0 dX10_outputChar_26 rfl rfl ?_
      refine z_get (C := RX10) (T := TX10) (N := 12) F (fun w h => List.mem_cons_of_mem _ (List.mem_append_left _ (List.mem_append_left _ (List.mem_append_right _ (h))))) 0 rfl rfl 8 (by decide) (List.mem_cons_of_mem _ (List.mem_append_left _ (List.mem_append_left _ (List.mem_append_left _ (List.mem_append_left _ (List.mem_of_getElem? (i := 2) rfl)))))) rfl rfl dX10_outputChar_27 ?_
      refine z_iload_n F 1 dX10_outputChar_30 rfl rfl ?_
      refine z_calli0 F (z_runV (st := []) F ((zJ_ok D g dg)) E.2 (fun sz => c_J4_charAt_5068e l D g dg (a 94) ob ml bn oc obp x (hbc) (hb3) (hx) sz) (cwV 1 F.1.2.2.2.2 gX10_outputChar_J4_charAt_5068e rfl rfl rfl (by decide +kernel) ⟨Nat.le_of_ble_eq_true rfl, Nat.le_of_ble_eq_true rfl⟩) 1 rfl rfl rfl [] [1, 2] rfl rfl (by decide) rfl rfl (Nat.le_of_ble_eq_true rfl) dX10_outputChar_31 ⟨Nat.le_of_ble_eq_true rfl, Nat.le_of_ble_eq_true rfl⟩) (fun r6 _ hw5 => ?_)
      subst hw5
      refine z_wide (k := 1) (n := 6) (Nat.le_of_ble_eq_true rfl) (Nat.le_of_ble_eq_true rfl) ?_
      refine z_xret hQ ?_
      exact z_zret F hA rfl hlk hr (pk_nc _) () (⟨(if_neg h0).trans (if_pos h2), by rw [hxz]⟩) (rfl) dX10_outputChar_34
    · have h2 := c4
      exact z_throwW (names := ["java/lang/RuntimeException", "java/lang/Exception"]) (B := zB9 "java/lang/IndexOutOfBoundsException") F hA hQ hl9 hx9 hlk (by decide) (by decide) (List.mem_cons_of_mem _ (List.mem_append_left _ (List.mem_append_left _ (List.mem_append_left _ (List.mem_append_left _ (List.mem_of_getElem? (i := 0) rfl)))))) (List.mem_cons_of_mem _ (List.mem_append_left _ (List.mem_append_left _ (List.mem_append_left _ (List.mem_append_left _ (List.mem_of_getElem? (i := 1) rfl)))))) (zEnv.str E.1 9 rfl) (fun w h => List.mem_cons_of_mem _ (List.mem_append_right _ (h))) (by decide +kernel) (zEnv.b9 E.1 3 rfl) (by decide +kernel) (by decide +kernel) (zEnv.zu E.1) (zEnv.zn E.1) dX10_outputChar_15 dX10_outputChar_18 dX10_outputChar_19 dX10_outputChar_22 dX10_outputChar_25 (Nat.le_of_ble_eq_true rfl) (Nat.le_of_ble_eq_true rfl) (Nat.le_of_ble_eq_true rfl) (Nat.le_of_ble_eq_true rfl) (Nat.le_of_ble_eq_true rfl) (Nat.le_of_ble_eq_true rfl) () (⟨by rw [f_oc, if_neg h0, if_neg h2]; rfl, by rw [f_oc, if_neg h0, if_neg h2]; decide⟩) (rfl)
set_option maxHeartbeats 4000000 in
set_option maxRecDepth 100000 in
theorem c_X10_writeDebts (l : Launch) (hl9 : l.stackTraces = false) (D : va_G) (g : Nat → ClassId) (er : Nat → Nat) (dg : Nat → Nat) (a : Nat → Nat) (am : Nat → Int32) (co : Nat → Int32) (bo : Nat → Bool) (mc : Nat) (hc : Int32) (ne : Int32) (lo : Int32) (hs : Int32) (ep : Int32) (fc : Int32) (ob : Nat) (oc : Nat) (obp : Nat → Int8) (ml : Int32) (bn : Nat) (v : Int32) (hm : mc ≤ 8) (hbc : bn ≤ oc) (hb3 : oc ≤ 300) (sz : Nat) : vx_Met l yX10_writeDebts wsX10_writeDebts { frames := 7, cells := 60, slots := 14000, locals := 128 } (zPc D (gT g) (zEnv2 er D g dg) [.ref (a 0), .int v] [(a 94, .inr (1, [.ref ob, .int 0, .int ml, .int (nI bn)])), (ob, .inl (g 3, oc, .inl ((zBy obp))))] [(a 0, .inr (10, [.ref (a 1), .ref (a 8), .ref (a 15), .ref (a 22), .ref (a 24), .ref (a 27), .ref (a 33), .ref (a 91), .ref (a 94), .int hs, .int ep, .int fc])), (a 1, .inr (7, [.ref (a 2), .ref (a 3), .ref (a 4), .ref (a 5), .ref (a 6), .ref (a 7), .int (nI mc), .int hc, .int ne, .int lo])), (a 2, .inl (g 0, 64, .inl am)), (a 3, .inl (g 0, 8, .inl co)), (a 7, .inl (g 1, 8, .inl ((zBo bo))))] sz) (zQi D [(a 94, .inr (1, [.ref ob, .int 0, .int ml, .int (nI bn)])), (ob, .inl (g 3, oc, .inl ((zBy obp))))] (fun (r : Int32) (u : Nat × Nat × (Nat → Int8) × Int32) => f_onMember mc v = 0 ∧ r = nI (f_w am co bo (z_n v)).1 ∧ u.2.1 ≤ 300 ∧ (f_w am co bo (z_n v)).1 ≤ u.2.1 ∧ (f_w am co bo (z_n v)).1 ≤ 125 ∧ ∀ k, k < (f_w am co bo (z_n v)).1 → u.2.2.1 k = (f_w am co bo (z_n v)).2 k) (fun (u9 : Nat × Nat × (Nat → Int8) × Int32) => [(a 94, .inr (1, [.ref u9.1, .int 0, .int u9.2.2.2, .int (nI (f_w am co bo (z_n v)).1)])), (u9.1, .inl (g 3, u9.2.1, .inl ((zBy u9.2.2.1))))]) sz) (zXC D [(a 94, .inr (1, [.ref ob, .int 0, .int ml, .int (nI bn)])), (ob, .inl (g 3, oc, .inl ((zBy obp))))] (fun (E : String) (_ : Unit) => E = zExc (f_onMember mc v) ∧ ¬ (f_onMember mc v) = 0) (fun _ => [(a 94, .inr (1, [.ref ob, .int 0, .int ml, .int (nI bn)])), (ob, .inl (g 3, oc, .inl ((zBy obp))))]) sz) 60 14000 (va_A [(a 94, .inr (1, [.ref ob, .int 0, .int ml, .int (nI bn)])), (ob, .inl (g 3, oc, .inl ((zBy obp))))] sz) := by
  refine z_metX (y := yX10_writeDebts) (XC := zXC D [(a 94, .inr (1, [.ref ob, .int 0, .int ml, .int (nI bn)])), (ob, .inl (g 3, oc, .inl ((zBy obp))))] (fun (E : String) (_ : Unit) => E = zExc (f_onMember mc v) ∧ ¬ (f_onMember mc v) = 0) (fun _ => [(a 94, .inr (1, [.ref ob, .int 0, .int ml, .int (nI bn)])), (ob, .inl (g 3, oc, .inl ((zBy obp))))])) (cc := cX10_writeDebts) (nL := 4) (rm := { frames := 7, cells := 60, slots := 14000, locals := 128 }) (D := D) (tys := gT g) (wr := [(a 0, .inr (10, [.ref (a 1), .ref (a 8), .ref (a 15), .ref (a 22), .ref (a 24), .ref (a 27), .ref (a 33), .ref (a 91), .ref (a 94), .int hs, .int ep, .int fc])), (a 1, .inr (7, [.ref (a 2), .ref (a 3), .ref (a 4), .ref (a 5), .ref (a 6), .ref (a 7), .int (nI mc), .int hc, .int ne, .int lo])), (a 2, .inl (g 0, 64, .inl am)), (a 3, .inl (g 0, 8, .inl co)), (a 7, .inl (g 1, 8, .inl ((zBo bo))))]) (P0 := zEnv2 er D g dg) (As := [.ref (a 0), .int v]) (ww := [(a 94, .inr (1, [.ref ob, .int 0, .int ml, .int (nI bn)])), (ob, .inl (g 3, oc, .inl ((zBy obp))))]) (Qc := zQi D [(a 94, .inr (1, [.ref ob, .int 0, .int ml, .int (nI bn)])), (ob, .inl (g 3, oc, .inl ((zBy obp))))] (fun (r : Int32) (u : Nat × Nat × (Nat → Int8) × Int32) => f_onMember mc v = 0 ∧ r = nI (f_w am co bo (z_n v)).1 ∧ u.2.1 ≤ 300 ∧ (f_w am co bo (z_n v)).1 ≤ u.2.1 ∧ (f_w am co bo (z_n v)).1 ≤ 125 ∧ ∀ k, k < (f_w am co bo (z_n v)).1 → u.2.2.1 k = (f_w am co bo (z_n v)).2 k) (fun (u9 : Nat × Nat × (Nat → Int8) × Int32) => [(a 94, .inr (1, [.ref u9.1, .int 0, .int u9.2.2.2, .int (nI (f_w am co bo (z_n v)).1)])), (u9.1, .inl (g 3, u9.2.1, .inl ((zBy u9.2.2.1))))])) (ret := (some .int)) (by decide) rfl (Nat.le_of_ble_eq_true rfl) ?_ sz
  intro p e s m args below meth c A Q hA hQ F E hr hlk hx9
  show zW p l e { frames := 7, cells := 60, slots := 14000, locals := 128 } s m args below meth c 4 D A Q 0 0 [(a 94, .inr (1, [.ref ob, .int 0, .int ml, .int (nI bn)])), (ob, .inl (g 3, oc, .inl ((zBy obp))))] [(0, .ref (a 0)), (1, .int v)] [] 0
  refine z_aload_n F 0 dX10_writeDebts_0 rfl rfl ?_
  refine z_get (C := RX10) (T := TX10) (N := 12) F (fun w h => List.mem_cons_of_mem _ (List.mem_append_left _ (List.mem_append_left _ (List.mem_append_left _ (List.mem_append_left _ (List.mem_append_left _ (List.mem_append_left _ (List.mem_append_left _ (List.mem_append_left _ (List.mem_append_left _ (List.mem_append_right _ (h)))))))))))) 2 rfl rfl 0 (by decide) (List.mem_cons_of_mem _ (List.mem_append_left _ (List.mem_append_left _ (List.mem_append_left _ (List.mem_append_left _ (List.mem_append_left _ (List.mem_append_left _ (List.mem_append_left _ (List.mem_append_left _ (List.mem_append_left _ (List.mem_append_left _ (List.mem_append_left _ (List.mem_of_getElem? (i := 0) rfl))))))))))))) rfl rfl dX10_writeDebts_1 ?_
  refine z_iload_n F 1 dX10_writeDebts_4 rfl rfl ?_
  refine z_calle0 F (z_runS (st := []) F (zEnv_ok er) E.1 (fun sz => c_X9_onMember l D g er (a 1) (a 2) (a 3) (a 4) (a 5) (a 6) (a 7) mc hc ne lo v sz) (va_cwS 2 F.1.2.2.2.2 gX10_writeDebts_X9_onMember rfl rfl rfl (by decide +kernel) ⟨Nat.le_of_ble_eq_true rfl, Nat.le_of_ble_eq_true rfl⟩) [] [3] rfl rfl (by decide) rfl rfl (Nat.le_of_ble_eq_true rfl) dX10_writeDebts_5 ⟨Nat.le_of_ble_eq_true rfl, Nat.le_of_ble_eq_true rfl⟩) (fun r2 _ hw1 => ?_)
  subst hw1
  refine z_st (st' := [.ref (er (f_onMember mc v))]) rfl ?_
  refine z_callXv0 F (z_runSX (st := []) F (zEnv_ok er) E.1 (fun sz => c_X10_throwIfRefused l hl9 D g er (f_onMember mc v) (f_onMember_lt mc v) sz) (va_cwS 1 F.1.2.2.2.2 gX10_writeDebts_X10_throwIfRefused rfl rfl rfl (by decide +kernel) ⟨Nat.le_of_ble_eq_true rfl, Nat.le_of_ble_eq_true rfl⟩) [] [] rfl rfl (by decide) rfl rfl (Nat.le_of_ble_eq_true rfl) dX10_writeDebts_8 ⟨Nat.le_of_ble_eq_true rfl, Nat.le_of_ble_eq_true rfl⟩) (fun E9 u9 hx => z_out F hA hQ hx9 hlk () (hx) (rfl) (by first | exact Nat.le_of_ble_eq_true rfl | omega) (by first | exact Nat.le_of_ble_eq_true rfl | omega)) (fun _ hw3 => ?_)
  have hc8 := hw3
  have hC0 := hw3
  obtain ⟨x, hx, e1⟩ := z_onMember hc8 hm
  subst e1
  have hx8 : x < 8 := by omega
  have hxz := z_nn hx8
  refine z_aload_n F 0 dX10_writeDebts_11 rfl rfl ?_
  refine z_get (C := RX10) (T := TX10) (N := 12) F (fun w h => List.mem_cons_of_mem _ (List.mem_append_left _ (List.mem_append_left _ (List.mem_append_left _ (List.mem_append_left _ (List.mem_append_left _ (List.mem_append_left _ (List.mem_append_left _ (List.mem_append_left _ (List.mem_append_left _ (List.mem_append_right _ (h)))))))))))) 2 rfl rfl 8 (by decide) (List.mem_cons_of_mem _ (List.mem_append_left _ (List.mem_append_left _ (List.mem_append_left _ (List.mem_append_left _ (List.mem_append_left _ (List.mem_append_left _ (List.mem_append_left _ (List.mem_append_left _ (List.mem_append_left _ (List.mem_append_left _ (List.mem_append_left _ (List.mem_of_getElem? (i := 1) rfl))))))))))))) rfl rfl dX10_writeDebts_12 ?_
  refine z_iconst (v := 0) F dX10_writeDebts_15 (by decide) ?_
  refine z_callv (wn := []) (wf := fun u5 => [(a 94, .inr (1, [.ref u5.1, .int 0, .int u5.2.2.2, .int 0])), (u5.1, .inl (g 3, u5.2.1, .inl ((zBy u5.2.2.1))))]) F (z_runV (st := []) F ((zJ_ok D g dg)) E.2 (fun sz => c_J4_setLength_d00df l D g dg (a 94) ob ml bn oc obp (hbc) (hb3) sz) (cwV 1 F.1.2.2.2.2 gX10_writeDebts_J4_setLength_d00df rfl rfl rfl (by decide +kernel) ⟨Nat.le_of_ble_eq_true rfl, Nat.le_of_ble_eq_true rfl⟩) 0 rfl rfl rfl [0, 1] [] rfl rfl (by decide) rfl rfl (Nat.le_of_ble_eq_true rfl) dX10_writeDebts_16 ⟨Nat.le_of_ble_eq_true rfl, Nat.le_of_ble_eq_true rfl⟩) [0, 1] [] [0, 1] rfl rfl (by decide) (by decide) (by decide) (fun _ => rfl) (fun u5 hw4 => ?_)
  obtain ⟨b9_16, c9_16, f9_16, ml9_16⟩ := u5
  have hc3_16 := hw4
  try dsimp only at hc3_16
  have e16 : (0 : Nat) = t0.1 ∧ ∀ k, k < 0 → f9_16 k = t0.2 k := ⟨rfl, fun k h => absurd h (Nat.not_lt_zero k)⟩
  refine z_aload_n F 0 dX10_writeDebts_19 rfl rfl ?_
  refine z_get (C := RX10) (T := TX10) (N := 12) F (fun w h => List.mem_cons_of_mem _ (List.mem_append_left _ (List.mem_append_left _ (List.mem_append_left _ (List.mem_append_left _ (List.mem_append_left _ (List.mem_append_left _ (List.mem_append_left _ (List.mem_append_left _ (List.mem_append_left _ (List.mem_append_right _ (h)))))))))))) 2 rfl rfl 8 (by decide) (List.mem_cons_of_mem _ (List.mem_append_left _ (List.mem_append_left _ (List.mem_append_left _ (List.mem_append_left _ (List.mem_append_left _ (List.mem_append_left _ (List.mem_append_left _ (List.mem_append_left _ (List.mem_append_left _ (List.mem_append_left _ (List.mem_append_left _ (List.mem_of_getElem? (i := 1) rfl))))))))))))) rfl rfl dX10_writeDebts_20 ?_
  refine z_aload_n F 0 dX10_writeDebts_23 rfl rfl ?_
  refine z_get (C := RX10) (T := TX10) (N := 12) F (fun w h => List.mem_cons_of_mem _ (List.mem_append_left _ (List.mem_append_left _ (List.mem_append_left _ (List.mem_append_left _ (List.mem_append_left _ (List.mem_append_left _ (List.mem_append_left _ (List.mem_append_left _ (List.mem_append_left _ (List.mem_append_right _ (h)))))))))))) 2 rfl rfl 0 (by decide) (List.mem_cons_of_mem _ (List.mem_append_left _ (List.mem_append_left _ (List.mem_append_left _ (List.mem_append_left _ (List.mem_append_left _ (List.mem_append_left _ (List.mem_append_left _ (List.mem_append_left _ (List.mem_append_left _ (List.mem_append_left _ (List.mem_append_left _ (List.mem_of_getElem? (i := 0) rfl))))))))))))) rfl rfl dX10_writeDebts_24 ?_
  refine z_getN (C := RX5) (T := TX5) (N := 10) F (fun w h => List.mem_cons_of_mem _ (List.mem_append_left _ (List.mem_append_left _ (List.mem_append_left _ (List.mem_append_left _ (List.mem_append_left _ (List.mem_append_left _ (List.mem_append_left _ (List.mem_append_left _ (List.mem_append_right _ (h))))))))))) 3 rfl rfl 1 (by decide) (zEnv.nf E.1 3 rfl) rfl rfl dX10_writeDebts_27 ?_
  refine z_iload_n F 1 dX10_writeDebts_30 rfl rfl ?_
  refine z_ialdN (j := x) F 5 0 rfl rfl (by omega) (by decide) dX10_writeDebts_31 ?_
  refine z_calle (wn := []) (wf := fun u7 => [(a 94, .inr (1, [.ref u7.1, .int 0, .int ml9_16, .int (nI (0 + f_sz (co x)))])), (u7.1, .inl (g 3, u7.2.1, .inl ((zBy u7.2.2))))]) F (z_runV (st := []) F ((zJ_ok D g dg)) E.2 (fun sz => c_J4_append_bf812 l D g dg (a 94) b9_16 ml9_16 0 c9_16 f9_16 (co x) (by omega) (by omega) (by omega) sz) (cwV 1 F.1.2.2.2.2 gX10_writeDebts_J4_append_bf812 rfl rfl rfl (by decide +kernel) ⟨Nat.le_of_ble_eq_true rfl, Nat.le_of_ble_eq_true rfl⟩) 0 rfl rfl rfl [0, 1] [] rfl rfl (by decide) rfl rfl (Nat.le_of_ble_eq_true rfl) dX10_writeDebts_32 ⟨Nat.le_of_ble_eq_true rfl, Nat.le_of_ble_eq_true rfl⟩) [0, 1] [] [0, 1] rfl rfl (by decide) (by decide) (by decide) (fun _ => rfl) (fun r8 u7 hw6 => ?_)
  obtain ⟨b9_32, c9_32, f9_32⟩ := u7
  obtain ⟨r32_, hcc_32, hc3_32, hsame_32, hdig_32, hcap_32⟩ := hw6
  try dsimp only at hcc_32
  try dsimp only at hc3_32
  try dsimp only at hsame_32
  try dsimp only at hdig_32
  try dsimp only at hcap_32
  subst r32_
  refine z_st (st' := [.ref (a 94)]) rfl ?_
  have z32 := f_sz_le (co x)
  have e32 := z_tI e16 hsame_32 hdig_32
  refine z_bipush (v := 99) F dX10_writeDebts_35 (by decide) ?_
  refine z_calle (wn := []) (wf := fun u10 => [(a 94, .inr (1, [.ref u10.1, .int 0, .int ml9_16, .int (nI ((0 + f_sz (co x)) + 1))])), (u10.1, .inl (g 3, u10.2.1, .inl ((zBy u10.2.2))))]) F (z_runV (st := []) F ((zJ_ok D g dg)) E.2 (fun sz => c_J4_append_cf468 l D g dg (a 94) b9_32 ml9_16 (0 + f_sz (co x)) c9_32 f9_32 99 (by omega) (by omega) (by omega) (by decide) sz) (cwV 1 F.1.2.2.2.2 gX10_writeDebts_J4_append_cf468 rfl rfl rfl (by decide +kernel) ⟨Nat.le_of_ble_eq_true rfl, Nat.le_of_ble_eq_true rfl⟩) 0 rfl rfl rfl [0, 1] [] rfl rfl (by decide) rfl rfl (Nat.le_of_ble_eq_true rfl) dX10_writeDebts_37 ⟨Nat.le_of_ble_eq_true rfl, Nat.le_of_ble_eq_true rfl⟩) [0, 1] [] [0, 1] rfl rfl (by decide) (by decide) (by decide) (fun _ => rfl) (fun r11 u10 hw9 => ?_)
  obtain ⟨b9_37, c9_37, f9_37⟩ := u10
  obtain ⟨r37_, hcc_37, hc3_37, hsame_37, hnew_37⟩ := hw9
  try dsimp only at hcc_37
  try dsimp only at hc3_37
  try dsimp only at hsame_37
  try dsimp only at hnew_37
  subst r37_
  refine z_st (st' := [.ref (a 94)]) rfl ?_
  have e37 := z_tC e32 hsame_37 hnew_37
  refine z_pop F dX10_writeDebts_40 rfl ?_
  refine z_aload_n F 0 dX10_writeDebts_41 rfl rfl ?_
  refine z_get (C := RX10) (T := TX10) (N := 12) F (fun w h => List.mem_cons_of_mem _ (List.mem_append_left _ (List.mem_append_left _ (List.mem_append_left _ (List.mem_append_left _ (List.mem_append_left _ (List.mem_append_left _ (List.mem_append_left _ (List.mem_append_left _ (List.mem_append_left _ (List.mem_append_right _ (h)))))))))))) 2 rfl rfl 0 (by decide) (List.mem_cons_of_mem _ (List.mem_append_left _ (List.mem_append_left _ (List.mem_append_left _ (List.mem_append_left _ (List.mem_append_left _ (List.mem_append_left _ (List.mem_append_left _ (List.mem_append_left _ (List.mem_append_left _ (List.mem_append_left _ (List.mem_append_left _ (List.mem_of_getElem? (i := 0) rfl))))))))))))) rfl rfl dX10_writeDebts_42 ?_
  refine z_getN (C := RX5) (T := TX5) (N := 10) F (fun w h => List.mem_cons_of_mem _ (List.mem_append_left _ (List.mem_append_left _ (List.mem_append_left _ (List.mem_append_left _ (List.mem_append_left _ (List.mem_append_left _ (List.mem_append_left _ (List.mem_append_left _ (List.mem_append_right _ (h))))))))))) 3 rfl rfl 5 (by decide) (zEnv.nf E.1 12 rfl) rfl rfl dX10_writeDebts_45 ?_
  refine z_iload_n F 1 dX10_writeDebts_48 rfl rfl ?_
  refine z_zaldN (j := x) F 6 1 rfl rfl (by omega) (by decide) dX10_writeDebts_49 ?_
  refine z_if_eq (tgt := 63) F dX10_writeDebts_50 (by decide) (fun c12 => ?_) (fun c12 => ?_)
  · have hb0 := c12
    refine z_iconst (v := 0) F dX10_writeDebts_63 (by decide) ?_
    refine z_istore_n (lv' := [(2, .int 0), (0, .ref (a 0)), (1, .int (nI x))]) F dX10_writeDebts_64 rfl (by decide) rfl ?_
    have L65 : ∀ (N65_ : Nat) (i : Nat) (b9 : Nat) (c9 : Nat) (f9 : Nat → Int8) (ml9 : Int32) (bn9 : Nat) (hN65_ : 8 - i < N65_) (hi : i ≤ 8) (hT : bn9 = (f_wN am co bo x i).1 ∧ ∀ k, k < bn9 → f9 k = (f_wN am co bo x i).2 k) (hlen : bn9 ≤ 13 + 14 * i) (hc9 : bn9 ≤ c9 ∧ c9 ≤ 300), zW p l e { frames := 7, cells := 60, slots := 14000, locals := 128 } s m args below meth c 4 D A Q (5 + 5 * i) (1206 + 1500 * i) [(a 94, .inr (1, [.ref b9, .int 0, .int ml9, .int (nI bn9)])), (b9, .inl (g 3, c9, .inl ((zBy f9))))] [(0, .ref (a 0)), (1, .int (nI x)), (2, .int (nI i))] [] 65 := by
      intro N65_
      induction N65_ with
      | zero =>
        intro i b9 c9 f9 ml9 bn9 hN65_
        exact absurd hN65_ (Nat.not_lt_zero _)
      | succ N65_ ih65 =>
        intro i b9 c9 f9 ml9 bn9 hN65_ hi hT hlen hc9
        refine z_iload_n F 2 dX10_writeDebts_65 rfl rfl ?_
        refine z_bipush (v := 8) F dX10_writeDebts_66 (by decide) ?_
        refine z_icmp_ge (tgt := 119) F dX10_writeDebts_68 (by decide) (fun c13 => ?_) (fun c13 => ?_)
        · have hi8 : i = 8 := by have := z_ge (by omega) (by decide) (show nI 8 ≤ nI i from c13); omega
          refine z_aload_n F 0 dX10_writeDebts_119 rfl rfl ?_
          refine z_get (C := RX10) (T := TX10) (N := 12) F (fun w h => List.mem_cons_of_mem _ (List.mem_append_left _ (List.mem_append_left _ (List.mem_append_left _ (List.mem_append_left _ (List.mem_append_left _ (List.mem_append_left _ (List.mem_append_left _ (List.mem_append_left _ (List.mem_append_left _ (List.mem_append_right _ (h)))))))))))) 2 rfl rfl 8 (by decide) (List.mem_cons_of_mem _ (List.mem_append_left _ (List.mem_append_left _ (List.mem_append_left _ (List.mem_append_left _ (List.mem_append_left _ (List.mem_append_left _ (List.mem_append_left _ (List.mem_append_left _ (List.mem_append_left _ (List.mem_append_left _ (List.mem_append_left _ (List.mem_of_getElem? (i := 1) rfl))))))))))))) rfl rfl dX10_writeDebts_120 ?_
          refine z_calli0 F (z_runV (st := []) F zNo_ok trivial (fun sz => c_J4_length_8abf5 l D g (a 94) b9 ml9 bn9 sz) (cwV 0 F.1.2.2.2.2 gX10_writeDebts_J4_length_8abf5 rfl rfl rfl (by decide +kernel) ⟨Nat.le_of_ble_eq_true rfl, Nat.le_of_ble_eq_true rfl⟩) 0 rfl rfl rfl [] [0] rfl rfl (by decide) rfl rfl (Nat.le_of_ble_eq_true rfl) dX10_writeDebts_123 ⟨by dsimp only; omega, by dsimp only; omega⟩) (fun r15 _ hw14 => ?_)
          subst hw14
          refine z_wide (k := 60) (n := 14000) (by first | exact Nat.le_of_ble_eq_true rfl | omega) (by first | exact Nat.le_of_ble_eq_true rfl | omega) ?_
          refine z_xret hQ ?_
          exact z_iret F hA rfl hlk hr (b9, c9, f9, ml9) (by rw [hi8] at hT hlen; rw [hxz]; exact ⟨hc8, (by rw [show bn9 = (f_w am co bo x).1 from hT.1]), hc9.2, (by rw [← show bn9 = (f_w am co bo x).1 from hT.1]; exact hc9.1), (by rw [← show bn9 = (f_w am co bo x).1 from hT.1]; omega), (fun k hk => hT.2 k (by rw [show bn9 = (f_w am co bo x).1 from hT.1]; exact hk))⟩) (by rw [hi8] at hT; simp only [hxz]; rw [show (f_w am co bo x).1 = bn9 from hT.1.symm]) dX10_writeDebts_126
        · have hi8 : i < 8 := z_lt (by omega) (by decide) c13
          refine z_aload_n F 0 dX10_writeDebts_71 rfl rfl ?_
          refine z_get (C := RX10) (T := TX10) (N := 12) F (fun w h => List.mem_cons_of_mem _ (List.mem_append_left _ (List.mem_append_left _ (List.mem_append_left _ (List.mem_append_left _ (List.mem_append_left _ (List.mem_append_left _ (List.mem_append_left _ (List.mem_append_left _ (List.mem_append_left _ (List.mem_append_right _ (h)))))))))))) 2 rfl rfl 0 (by decide) (List.mem_cons_of_mem _ (List.mem_append_left _ (List.mem_append_left _ (List.mem_append_left _ (List.mem_append_left _ (List.mem_append_left _ (List.mem_append_left _ (List.mem_append_left _ (List.mem_append_left _ (List.mem_append_left _ (List.mem_append_left _ (List.mem_append_left _ (List.mem_of_getElem? (i := 0) rfl))))))))))))) rfl rfl dX10_writeDebts_72 ?_
          refine z_iload_n F 1 dX10_writeDebts_75 rfl rfl ?_
          refine z_iload_n F 2 dX10_writeDebts_76 rfl rfl ?_
          refine z_calli0 F (z_runV (st := []) F zNo_ok trivial (fun sz => c_X5_amountOwed l D g (a 1) (a 2) (a 3) (a 4) (a 5) (a 6) (a 7) am mc hc ne lo x i (by omega) (by omega) sz) (cwV 2 F.1.2.2.2.2 gX10_writeDebts_X5_amountOwed rfl rfl rfl (by decide +kernel) ⟨Nat.le_of_ble_eq_true rfl, Nat.le_of_ble_eq_true rfl⟩) 3 rfl rfl rfl [] [3, 4] rfl rfl (by decide) rfl rfl (Nat.le_of_ble_eq_true rfl) dX10_writeDebts_77 ⟨by dsimp only; omega, by dsimp only; omega⟩) (fun r17 _ hw16 => ?_)
          subst hw16
          refine z_istore_n (lv' := [(3, .int (am (8 * x + i))), (0, .ref (a 0)), (1, .int (nI x)), (2, .int (nI i))]) F dX10_writeDebts_80 rfl (by decide) rfl ?_
          refine z_iload_n F 0 dX10_writeDebts_81 rfl rfl ?_
          refine z_if_le (tgt := 113) F dX10_writeDebts_82 (by decide) (fun c18 => ?_) (fun c18 => ?_)
          · have hv0 := c18
            refine z_iinc (v := nI (i + 1)) (lv' := [(2, .int (nI (i + 1))), (3, .int (am (8 * x + i))), (0, .ref (a 0)), (1, .int (nI x))]) F dX10_writeDebts_113 3 rfl (nI_1 i) (by decide) rfl ?_
            refine z_goto (tgt := 65) F dX10_writeDebts_116 (by decide) ?_
            refine z_loc (lv' := [(0, .ref (a 0)), (1, .int (nI x)), (2, .int (nI (i + 1)))]) [2, 3, 0] rfl ?_
            refine z_wide (k := 5 + 5 * (i + 1)) (n := 1206 + 1500 * (i + 1)) (by first | exact Nat.le_of_ble_eq_true rfl | omega) (by first | exact Nat.le_of_ble_eq_true rfl | omega) ?_
            exact ih65 (i + 1) b9 c9 f9 ml9 bn9 (by omega) (by omega) (by rw [show f_wN am co bo x (i + 1) = f_wN am co bo x i from if_pos hv0]; exact hT) (by omega) ⟨by omega, by omega⟩
          · have hv0 := c18
            have hv1 : 0 < am (8 * x + i) := Int32.not_le.mp c18
            refine z_aload_n F 1 dX10_writeDebts_85 rfl rfl ?_
            refine z_get (C := RX10) (T := TX10) (N := 12) F (fun w h => List.mem_cons_of_mem _ (List.mem_append_left _ (List.mem_append_left _ (List.mem_append_left _ (List.mem_append_left _ (List.mem_append_left _ (List.mem_append_left _ (List.mem_append_left _ (List.mem_append_left _ (List.mem_append_left _ (List.mem_append_right _ (h)))))))))))) 2 rfl rfl 8 (by decide) (List.mem_cons_of_mem _ (List.mem_append_left _ (List.mem_append_left _ (List.mem_append_left _ (List.mem_append_left _ (List.mem_append_left _ (List.mem_append_left _ (List.mem_append_left _ (List.mem_append_left _ (List.mem_append_left _ (List.mem_append_left _ (List.mem_append_left _ (List.mem_of_getElem? (i := 1) rfl))))))))))))) rfl rfl dX10_writeDebts_86 ?_
            refine z_bipush (v := 32) F dX10_writeDebts_89 (by decide) ?_
            refine z_calle (wn := []) (wf := fun u20 => [(a 94, .inr (1, [.ref u20.1, .int 0, .int ml9, .int (nI (bn9 + 1))])), (u20.1, .inl (g 3, u20.2.1, .inl ((zBy u20.2.2))))]) F (z_runV (st := []) F ((zJ_ok D g dg)) E.2 (fun sz => c_J4_append_cf468 l D g dg (a 94) b9 ml9 bn9 c9 f9 32 (by omega) (by omega) (by omega) (by decide) sz) (cwV 1 F.1.2.2.2.2 gX10_writeDebts_J4_append_cf468 rfl rfl rfl (by decide +kernel) ⟨Nat.le_of_ble_eq_true rfl, Nat.le_of_ble_eq_true rfl⟩) 0 rfl rfl rfl [0, 1] [] rfl rfl (by decide) rfl rfl (Nat.le_of_ble_eq_true rfl) dX10_writeDebts_91 ⟨by dsimp only; omega, by dsimp only; omega⟩) [0, 1] [] [0, 1] rfl rfl (by decide) (by decide) (by decide) (fun _ => rfl) (fun r21 u20 hw19 => ?_)
            obtain ⟨b9_91, c9_91, f9_91⟩ := u20
            obtain ⟨r91_, hcc_91, hc3_91, hsame_91, hnew_91⟩ := hw19
            try dsimp only at hcc_91
            try dsimp only at hc3_91
            try dsimp only at hsame_91
            try dsimp only at hnew_91
            subst r91_
            refine z_st (st' := [.ref (a 94)]) rfl ?_
            have e91 := z_tC hT hsame_91 hnew_91
            refine z_bipush (v := 62) F dX10_writeDebts_94 (by decide) ?_
            refine z_calle (wn := []) (wf := fun u23 => [(a 94, .inr (1, [.ref u23.1, .int 0, .int ml9, .int (nI ((bn9 + 1) + 1))])), (u23.1, .inl (g 3, u23.2.1, .inl ((zBy u23.2.2))))]) F (z_runV (st := []) F ((zJ_ok D g dg)) E.2 (fun sz => c_J4_append_cf468 l D g dg (a 94) b9_91 ml9 (bn9 + 1) c9_91 f9_91 62 (by omega) (by omega) (by omega) (by decide) sz) (cwV 1 F.1.2.2.2.2 gX10_writeDebts_J4_append_cf468 rfl rfl rfl (by decide +kernel) ⟨Nat.le_of_ble_eq_true rfl, Nat.le_of_ble_eq_true rfl⟩) 0 rfl rfl rfl [0, 1] [] rfl rfl (by decide) rfl rfl (Nat.le_of_ble_eq_true rfl) dX10_writeDebts_96 ⟨by dsimp only; omega, by dsimp only; omega⟩) [0, 1] [] [0, 1] rfl rfl (by decide) (by decide) (by decide) (fun _ => rfl) (fun r24 u23 hw22 => ?_)
            obtain ⟨b9_96, c9_96, f9_96⟩ := u23
            obtain ⟨r96_, hcc_96, hc3_96, hsame_96, hnew_96⟩ := hw22
            try dsimp only at hcc_96
            try dsimp only at hc3_96
            try dsimp only at hsame_96
            try dsimp only at hnew_96
            subst r96_
            refine z_st (st' := [.ref (a 94)]) rfl ?_
            have e96 := z_tC e91 hsame_96 hnew_96
            refine z_iload_n F 3 dX10_writeDebts_99 rfl rfl ?_
            refine z_calle (wn := []) (wf := fun u26 => [(a 94, .inr (1, [.ref u26.1, .int 0, .int ml9, .int (nI (((bn9 + 1) + 1) + f_sz (nI i)))])), (u26.1, .inl (g 3, u26.2.1, .inl ((zBy u26.2.2))))]) F (z_runV (st := []) F ((zJ_ok D g dg)) E.2 (fun sz => c_J4_append_bf812 l D g dg (a 94) b9_96 ml9 ((bn9 + 1) + 1) c9_96 f9_96 (nI i) (by omega) (by omega) (by omega) sz) (cwV 1 F.1.2.2.2.2 gX10_writeDebts_J4_append_bf812 rfl rfl rfl (by decide +kernel) ⟨Nat.le_of_ble_eq_true rfl, Nat.le_of_ble_eq_true rfl⟩) 0 rfl rfl rfl [0, 1] [] rfl rfl (by decide) rfl rfl (Nat.le_of_ble_eq_true rfl) dX10_writeDebts_100 ⟨by dsimp only; omega, by dsimp only; omega⟩) [0, 1] [] [0, 1] rfl rfl (by decide) (by decide) (by decide) (fun _ => rfl) (fun r27 u26 hw25 => ?_)
            obtain ⟨b9_100, c9_100, f9_100⟩ := u26
            obtain ⟨r100_, hcc_100, hc3_100, hsame_100, hdig_100, hcap_100⟩ := hw25
            try dsimp only at hcc_100
            try dsimp only at hc3_100
            try dsimp only at hsame_100
            try dsimp only at hdig_100
            try dsimp only at hcap_100
            subst r100_
            refine z_st (st' := [.ref (a 94)]) rfl ?_
            have z100 := f_sz_i hi8
            have e100 := z_tI e96 hsame_100 hdig_100
            refine z_bipush (v := 58) F dX10_writeDebts_103 (by decide) ?_
            refine z_calle (wn := []) (wf := fun u29 => [(a 94, .inr (1, [.ref u29.1, .int 0, .int ml9, .int (nI ((((bn9 + 1) + 1) + f_sz (nI i)) + 1))])), (u29.1, .inl (g 3, u29.2.1, .inl ((zBy u29.2.2))))]) F (z_runV (st := []) F ((zJ_ok D g dg)) E.2 (fun sz => c_J4_append_cf468 l D g dg (a 94) b9_100 ml9 (((bn9 + 1) + 1) + f_sz (nI i)) c9_100 f9_100 58 (by omega) (by omega) (by omega) (by decide) sz) (cwV 1 F.1.2.2.2.2 gX10_writeDebts_J4_append_cf468 rfl rfl rfl (by decide +kernel) ⟨Nat.le_of_ble_eq_true rfl, Nat.le_of_ble_eq_true rfl⟩) 0 rfl rfl rfl [0, 1] [] rfl rfl (by decide) rfl rfl (Nat.le_of_ble_eq_true rfl) dX10_writeDebts_105 ⟨by dsimp only; omega, by dsimp only; omega⟩) [0, 1] [] [0, 1] rfl rfl (by decide) (by decide) (by decide) (fun _ => rfl) (fun r30 u29 hw28 => ?_)
            obtain ⟨b9_105, c9_105, f9_105⟩ := u29
            obtain ⟨r105_, hcc_105, hc3_105, hsame_105, hnew_105⟩ := hw28
            try dsimp only at hcc_105
            try dsimp only at hc3_105
            try dsimp only at hsame_105
            try dsimp only at hnew_105
            subst r105_
            refine z_st (st' := [.ref (a 94)]) rfl ?_
            have e105 := z_tC e100 hsame_105 hnew_105
            refine z_iload_n F 0 dX10_writeDebts_108 rfl rfl ?_
            refine z_calle (wn := []) (wf := fun u32 => [(a 94, .inr (1, [.ref u32.1, .int 0, .int ml9, .int (nI (((((bn9 + 1) + 1) + f_sz (nI i)) + 1) + f_sz (am (8 * x + i))))])), (u32.1, .inl (g 3, u32.2.1, .inl ((zBy u32.2.2))))]) F (z_runV (st := []) F ((zJ_ok D g dg)) E.2 (fun sz => c_J4_append_bf812 l D g dg (a 94) b9_105 ml9 ((((bn9 + 1) + 1) + f_sz (nI i)) + 1) c9_105 f9_105 (am (8 * x + i)) (by omega) (by omega) (by omega) sz) (cwV 1 F.1.2.2.2.2 gX10_writeDebts_J4_append_bf812 rfl rfl rfl (by decide +kernel) ⟨Nat.le_of_ble_eq_true rfl, Nat.le_of_ble_eq_true rfl⟩) 0 rfl rfl rfl [0, 1] [] rfl rfl (by decide) rfl rfl (Nat.le_of_ble_eq_true rfl) dX10_writeDebts_109 ⟨by dsimp only; omega, by dsimp only; omega⟩) [0, 1] [] [0, 1] rfl rfl (by decide) (by decide) (by decide) (fun _ => rfl) (fun r33 u32 hw31 => ?_)
            obtain ⟨b9_109, c9_109, f9_109⟩ := u32
            obtain ⟨r109_, hcc_109, hc3_109, hsame_109, hdig_109, hcap_109⟩ := hw31
            try dsimp only at hcc_109
            try dsimp only at hc3_109
            try dsimp only at hsame_109
            try dsimp only at hdig_109
            try dsimp only at hcap_109
            subst r109_
            refine z_st (st' := [.ref (a 94)]) rfl ?_
            have z109 := f_sz_pos hv1
            have e109 := z_tI e105 hsame_109 hdig_109
            refine z_pop F dX10_writeDebts_112 rfl ?_
            refine z_iinc (v := nI (i + 1)) (lv' := [(2, .int (nI (i + 1))), (3, .int (am (8 * x + i))), (0, .ref (a 0)), (1, .int (nI x))]) F dX10_writeDebts_113 3 rfl (nI_1 i) (by decide) rfl ?_
            refine z_goto (tgt := 65) F dX10_writeDebts_116 (by decide) ?_
            refine z_loc (lv' := [(0, .ref (a 0)), (1, .int (nI x)), (2, .int (nI (i + 1)))]) [2, 3, 0] rfl ?_
            refine z_wide (k := 5 + 5 * (i + 1)) (n := 1206 + 1500 * (i + 1)) (by first | exact Nat.le_of_ble_eq_true rfl | omega) (by first | exact Nat.le_of_ble_eq_true rfl | omega) ?_
            exact ih65 (i + 1) b9_109 c9_109 f9_109 ml9 (((((bn9 + 1) + 1) + f_sz (nI i)) + 1) + f_sz (am (8 * x + i))) (by omega) (by omega) (by rw [show f_wN am co bo x (i + 1) = tI (tC (tI (tC (tC (f_wN am co bo x i) 32) 62) (nI i)) 58) (am (8 * x + i)) from if_neg hv0]; exact e109) (by omega) ⟨by omega, by omega⟩
    refine z_loc (lv' := [(0, .ref (a 0)), (1, .int (nI x)), (2, .int (nI 0))]) [1, 2, 0] rfl ?_
    refine z_wide (k := 5 + 5 * 0) (n := 1206 + 1500 * 0) (by first | exact Nat.le_of_ble_eq_true rfl | omega) (by first | exact Nat.le_of_ble_eq_true rfl | omega) ?_
    exact L65 _ 0 b9_37 c9_37 f9_37 ml9_16 ((0 + f_sz (co x)) + 1) (Nat.lt_succ_self _) (by omega) (by rw [show f_wN am co bo x 0 = tC (tI t0 (co x)) 99 from if_pos hb0]; exact e37) (by omega) ⟨by omega, by omega⟩
  · have hb0 := c12
    refine z_aload_n F 0 dX10_writeDebts_53 rfl rfl ?_
    refine z_get (C := RX10) (T := TX10) (N := 12) F (fun w h => List.mem_cons_of_mem _ (List.mem_append_left _ (List.mem_append_left _ (List.mem_append_left _ (List.mem_append_left _ (List.mem_append_left _ (List.mem_append_left _ (List.mem_append_left _ (List.mem_append_left _ (List.mem_append_left _ (List.mem_append_right _ (h)))))))))))) 2 rfl rfl 8 (by decide) (List.mem_cons_of_mem _ (List.mem_append_left _ (List.mem_append_left _ (List.mem_append_left _ (List.mem_append_left _ (List.mem_append_left _ (List.mem_append_left _ (List.mem_append_left _ (List.mem_append_left _ (List.mem_append_left _ (List.mem_append_left _ (List.mem_append_left _ (List.mem_of_getElem? (i := 1) rfl))))))))))))) rfl rfl dX10_writeDebts_54 ?_
    refine z_bipush (v := 33) F dX10_writeDebts_57 (by decide) ?_
    refine z_calle (wn := []) (wf := fun u35 => [(a 94, .inr (1, [.ref u35.1, .int 0, .int ml9_16, .int (nI (((0 + f_sz (co x)) + 1) + 1))])), (u35.1, .inl (g 3, u35.2.1, .inl ((zBy u35.2.2))))]) F (z_runV (st := []) F ((zJ_ok D g dg)) E.2 (fun sz => c_J4_append_cf468 l D g dg (a 94) b9_37 ml9_16 ((0 + f_sz (co x)) + 1) c9_37 f9_37 33 (by omega) (by omega) (by omega) (by decide) sz) (cwV 1 F.1.2.2.2.2 gX10_writeDebts_J4_append_cf468 rfl rfl rfl (by decide +kernel) ⟨Nat.le_of_ble_eq_true rfl, Nat.le_of_ble_eq_true rfl⟩) 0 rfl rfl rfl [0, 1] [] rfl rfl (by decide) rfl rfl (Nat.le_of_ble_eq_true rfl) dX10_writeDebts_59 ⟨Nat.le_of_ble_eq_true rfl, Nat.le_of_ble_eq_true rfl⟩) [0, 1] [] [0, 1] rfl rfl (by decide) (by decide) (by decide) (fun _ => rfl) (fun r36 u35 hw34 => ?_)
    obtain ⟨b9_59, c9_59, f9_59⟩ := u35
    obtain ⟨r59_, hcc_59, hc3_59, hsame_59, hnew_59⟩ := hw34
    try dsimp only at hcc_59
    try dsimp only at hc3_59
    try dsimp only at hsame_59
    try dsimp only at hnew_59
    subst r59_
    refine z_st (st' := [.ref (a 94)]) rfl ?_
    have e59 := z_tC e37 hsame_59 hnew_59
    refine z_pop F dX10_writeDebts_62 rfl ?_
    refine z_iconst (v := 0) F dX10_writeDebts_63 (by decide) ?_
    refine z_istore_n (lv' := [(2, .int 0), (0, .ref (a 0)), (1, .int (nI x))]) F dX10_writeDebts_64 rfl (by decide) rfl ?_
    have L65 : ∀ (N65_ : Nat) (i : Nat) (b9 : Nat) (c9 : Nat) (f9 : Nat → Int8) (ml9 : Int32) (bn9 : Nat) (hN65_ : 8 - i < N65_) (hi : i ≤ 8) (hT : bn9 = (f_wN am co bo x i).1 ∧ ∀ k, k < bn9 → f9 k = (f_wN am co bo x i).2 k) (hlen : bn9 ≤ 13 + 14 * i) (hc9 : bn9 ≤ c9 ∧ c9 ≤ 300), zW p l e { frames := 7, cells := 60, slots := 14000, locals := 128 } s m args below meth c 4 D A Q (5 + 5 * i) (1206 + 1500 * i) [(a 94, .inr (1, [.ref b9, .int 0, .int ml9, .int (nI bn9)])), (b9, .inl (g 3, c9, .inl ((zBy f9))))] [(0, .ref (a 0)), (1, .int (nI x)), (2, .int (nI i))] [] 65 := by
      intro N65_
      induction N65_ with
      | zero =>
        intro i b9 c9 f9 ml9 bn9 hN65_
        exact absurd hN65_ (Nat.not_lt_zero _)
      | succ N65_ ih65 =>
        intro i b9 c9 f9 ml9 bn9 hN65_ hi hT hlen hc9
        refine z_iload_n F 2 dX10_writeDebts_65 rfl rfl ?_
        refine z_bipush (v := 8) F dX10_writeDebts_66 (by decide) ?_
        refine z_icmp_ge (tgt := 119) F dX10_writeDebts_68 (by decide) (fun c37 => ?_) (fun c37 => ?_)
        · have hi8 : i = 8 := by have := z_ge (by omega) (by decide) (show nI 8 ≤ nI i from c37); omega
          refine z_aload_n F 0 dX10_writeDebts_119 rfl rfl ?_
          refine z_get (C := RX10) (T := TX10) (N := 12) F (fun w h => List.mem_cons_of_mem _ (List.mem_append_left _ (List.mem_append_left _ (List.mem_append_left _ (List.mem_append_left _ (List.mem_append_left _ (List.mem_append_left _ (List.mem_append_left _ (List.mem_append_left _ (List.mem_append_left _ (List.mem_append_right _ (h)))))))))))) 2 rfl rfl 8 (by decide) (List.mem_cons_of_mem _ (List.mem_append_left _ (List.mem_append_left _ (List.mem_append_left _ (List.mem_append_left _ (List.mem_append_left _ (List.mem_append_left _ (List.mem_append_left _ (List.mem_append_left _ (List.mem_append_left _ (List.mem_append_left _ (List.mem_append_left _ (List.mem_of_getElem? (i := 1) rfl))))))))))))) rfl rfl dX10_writeDebts_120 ?_
          refine z_calli0 F (z_runV (st := []) F zNo_ok trivial (fun sz => c_J4_length_8abf5 l D g (a 94) b9 ml9 bn9 sz) (cwV 0 F.1.2.2.2.2 gX10_writeDebts_J4_length_8abf5 rfl rfl rfl (by decide +kernel) ⟨Nat.le_of_ble_eq_true rfl, Nat.le_of_ble_eq_true rfl⟩) 0 rfl rfl rfl [] [0] rfl rfl (by decide) rfl rfl (Nat.le_of_ble_eq_true rfl) dX10_writeDebts_123 ⟨by dsimp only; omega, by dsimp only; omega⟩) (fun r39 _ hw38 => ?_)
          subst hw38
          refine z_wide (k := 60) (n := 14000) (by first | exact Nat.le_of_ble_eq_true rfl | omega) (by first | exact Nat.le_of_ble_eq_true rfl | omega) ?_
          refine z_xret hQ ?_
          exact z_iret F hA rfl hlk hr (b9, c9, f9, ml9) (by rw [hi8] at hT hlen; rw [hxz]; exact ⟨hc8, (by rw [show bn9 = (f_w am co bo x).1 from hT.1]), hc9.2, (by rw [← show bn9 = (f_w am co bo x).1 from hT.1]; exact hc9.1), (by rw [← show bn9 = (f_w am co bo x).1 from hT.1]; omega), (fun k hk => hT.2 k (by rw [show bn9 = (f_w am co bo x).1 from hT.1]; exact hk))⟩) (by rw [hi8] at hT; simp only [hxz]; rw [show (f_w am co bo x).1 = bn9 from hT.1.symm]) dX10_writeDebts_126
        · have hi8 : i < 8 := z_lt (by omega) (by decide) c37
          refine z_aload_n F 0 dX10_writeDebts_71 rfl rfl ?_
          refine z_get (C := RX10) (T := TX10) (N := 12) F (fun w h => List.mem_cons_of_mem _ (List.mem_append_left _ (List.mem_append_left _ (List.mem_append_left _ (List.mem_append_left _ (List.mem_append_left _ (List.mem_append_left _ (List.mem_append_left _ (List.mem_append_left _ (List.mem_append_left _ (List.mem_append_right _ (h)))))))))))) 2 rfl rfl 0 (by decide) (List.mem_cons_of_mem _ (List.mem_append_left _ (List.mem_append_left _ (List.mem_append_left _ (List.mem_append_left _ (List.mem_append_left _ (List.mem_append_left _ (List.mem_append_left _ (List.mem_append_left _ (List.mem_append_left _ (List.mem_append_left _ (List.mem_append_left _ (List.mem_of_getElem? (i := 0) rfl))))))))))))) rfl rfl dX10_writeDebts_72 ?_
          refine z_iload_n F 1 dX10_writeDebts_75 rfl rfl ?_
          refine z_iload_n F 2 dX10_writeDebts_76 rfl rfl ?_
          refine z_calli0 F (z_runV (st := []) F zNo_ok trivial (fun sz => c_X5_amountOwed l D g (a 1) (a 2) (a 3) (a 4) (a 5) (a 6) (a 7) am mc hc ne lo x i (by omega) (by omega) sz) (cwV 2 F.1.2.2.2.2 gX10_writeDebts_X5_amountOwed rfl rfl rfl (by decide +kernel) ⟨Nat.le_of_ble_eq_true rfl, Nat.le_of_ble_eq_true rfl⟩) 3 rfl rfl rfl [] [3, 4] rfl rfl (by decide) rfl rfl (Nat.le_of_ble_eq_true rfl) dX10_writeDebts_77 ⟨by dsimp only; omega, by dsimp only; omega⟩) (fun r41 _ hw40 => ?_)
          subst hw40
          refine z_istore_n (lv' := [(3, .int (am (8 * x + i))), (0, .ref (a 0)), (1, .int (nI x)), (2, .int (nI i))]) F dX10_writeDebts_80 rfl (by decide) rfl ?_
          refine z_iload_n F 0 dX10_writeDebts_81 rfl rfl ?_
          refine z_if_le (tgt := 113) F dX10_writeDebts_82 (by decide) (fun c42 => ?_) (fun c42 => ?_)
          · have hv0 := c42
            refine z_iinc (v := nI (i + 1)) (lv' := [(2, .int (nI (i + 1))), (3, .int (am (8 * x + i))), (0, .ref (a 0)), (1, .int (nI x))]) F dX10_writeDebts_113 3 rfl (nI_1 i) (by decide) rfl ?_
            refine z_goto (tgt := 65) F dX10_writeDebts_116 (by decide) ?_
            refine z_loc (lv' := [(0, .ref (a 0)), (1, .int (nI x)), (2, .int (nI (i + 1)))]) [2, 3, 0] rfl ?_
            refine z_wide (k := 5 + 5 * (i + 1)) (n := 1206 + 1500 * (i + 1)) (by first | exact Nat.le_of_ble_eq_true rfl | omega) (by first | exact Nat.le_of_ble_eq_true rfl | omega) ?_
            exact ih65 (i + 1) b9 c9 f9 ml9 bn9 (by omega) (by omega) (by rw [show f_wN am co bo x (i + 1) = f_wN am co bo x i from if_pos hv0]; exact hT) (by omega) ⟨by omega, by omega⟩
          · have hv0 := c42
            have hv1 : 0 < am (8 * x + i) := Int32.not_le.mp c42
            refine z_aload_n F 1 dX10_writeDebts_85 rfl rfl ?_
            refine z_get (C := RX10) (T := TX10) (N := 12) F (fun w h => List.mem_cons_of_mem _ (List.mem_append_left _ (List.mem_append_left _ (List.mem_append_left _ (List.mem_append_left _ (List.mem_append_left _ (List.mem_append_left _ (List.mem_append_left _ (List.mem_append_left _ (List.mem_append_left _ (List.mem_append_right _ (h)))))))))))) 2 rfl rfl 8 (by decide) (List.mem_cons_of_mem _ (List.mem_append_left _ (List.mem_append_left _ (List.mem_append_left _ (List.mem_append_left _ (List.mem_append_left _ (List.mem_append_left _ (List.mem_append_left _ (List.mem_append_left _ (List.mem_append_left _ (List.mem_append_left _ (List.mem_append_left _ (List.mem_of_getElem? (i := 1) rfl))))))))))))) rfl rfl dX10_writeDebts_86 ?_
            refine z_bipush (v := 32) F dX10_writeDebts_89 (by decide) ?_
            refine z_calle (wn := []) (wf := fun u44 => [(a 94, .inr (1, [.ref u44.1, .int 0, .int ml9, .int (nI (bn9 + 1))])), (u44.1, .inl (g 3, u44.2.1, .inl ((zBy u44.2.2))))]) F (z_runV (st := []) F ((zJ_ok D g dg)) E.2 (fun sz => c_J4_append_cf468 l D g dg (a 94) b9 ml9 bn9 c9 f9 32 (by omega) (by omega) (by omega) (by decide) sz) (cwV 1 F.1.2.2.2.2 gX10_writeDebts_J4_append_cf468 rfl rfl rfl (by decide +kernel) ⟨Nat.le_of_ble_eq_true rfl, Nat.le_of_ble_eq_true rfl⟩) 0 rfl rfl rfl [0, 1] [] rfl rfl (by decide) rfl rfl (Nat.le_of_ble_eq_true rfl) dX10_writeDebts_91 ⟨by dsimp only; omega, by dsimp only; omega⟩) [0, 1] [] [0, 1] rfl rfl (by decide) (by decide) (by decide) (fun _ => rfl) (fun r45 u44 hw43 => ?_)
            obtain ⟨b9_91, c9_91, f9_91⟩ := u44
            obtain ⟨r91_, hcc_91, hc3_91, hsame_91, hnew_91⟩ := hw43
            try dsimp only at hcc_91
            try dsimp only at hc3_91
            try dsimp only at hsame_91
            try dsimp only at hnew_91
            subst r91_
            refine z_st (st' := [.ref (a 94)]) rfl ?_
            have e91 := z_tC hT hsame_91 hnew_91
            refine z_bipush (v := 62) F dX10_writeDebts_94 (by decide) ?_
            refine z_calle (wn := []) (wf := fun u47 => [(a 94, .inr (1, [.ref u47.1, .int 0, .int ml9, .int (nI ((bn9 + 1) + 1))])), (u47.1, .inl (g 3, u47.2.1, .inl ((zBy u47.2.2))))]) F (z_runV (st := []) F ((zJ_ok D g dg)) E.2 (fun sz => c_J4_append_cf468 l D g dg (a 94) b9_91 ml9 (bn9 + 1) c9_91 f9_91 62 (by omega) (by omega) (by omega) (by decide) sz) (cwV 1 F.1.2.2.2.2 gX10_writeDebts_J4_append_cf468 rfl rfl rfl (by decide +kernel) ⟨Nat.le_of_ble_eq_true rfl, Nat.le_of_ble_eq_true rfl⟩) 0 rfl rfl rfl [0, 1] [] rfl rfl (by decide) rfl rfl (Nat.le_of_ble_eq_true rfl) dX10_writeDebts_96 ⟨by dsimp only; omega, by dsimp only; omega⟩) [0, 1] [] [0, 1] rfl rfl (by decide) (by decide) (by decide) (fun _ => rfl) (fun r48 u47 hw46 => ?_)
            obtain ⟨b9_96, c9_96, f9_96⟩ := u47
            obtain ⟨r96_, hcc_96, hc3_96, hsame_96, hnew_96⟩ := hw46
            try dsimp only at hcc_96
            try dsimp only at hc3_96
            try dsimp only at hsame_96
            try dsimp only at hnew_96
            subst r96_
            refine z_st (st' := [.ref (a 94)]) rfl ?_
            have e96 := z_tC e91 hsame_96 hnew_96
            refine z_iload_n F 3 dX10_writeDebts_99 rfl rfl ?_
            refine z_calle (wn := []) (wf := fun u50 => [(a 94, .inr (1, [.ref u50.1, .int 0, .int ml9, .int (nI (((bn9 + 1) + 1) + f_sz (nI i)))])), (u50.1, .inl (g 3, u50.2.1, .inl ((zBy u50.2.2))))]) F (z_runV (st := []) F ((zJ_ok D g dg)) E.2 (fun sz => c_J4_append_bf812 l D g dg (a 94) b9_96 ml9 ((bn9 + 1) + 1) c9_96 f9_96 (nI i) (by omega) (by omega) (by omega) sz) (cwV 1 F.1.2.2.2.2 gX10_writeDebts_J4_append_bf812 rfl rfl rfl (by decide +kernel) ⟨Nat.le_of_ble_eq_true rfl, Nat.le_of_ble_eq_true rfl⟩) 0 rfl rfl rfl [0, 1] [] rfl rfl (by decide) rfl rfl (Nat.le_of_ble_eq_true rfl) dX10_writeDebts_100 ⟨by dsimp only; omega, by dsimp only; omega⟩) [0, 1] [] [0, 1] rfl rfl (by decide) (by decide) (by decide) (fun _ => rfl) (fun r51 u50 hw49 => ?_)
            obtain ⟨b9_100, c9_100, f9_100⟩ := u50
            obtain ⟨r100_, hcc_100, hc3_100, hsame_100, hdig_100, hcap_100⟩ := hw49
            try dsimp only at hcc_100
            try dsimp only at hc3_100
            try dsimp only at hsame_100
            try dsimp only at hdig_100
            try dsimp only at hcap_100
            subst r100_
            refine z_st (st' := [.ref (a 94)]) rfl ?_
            have z100 := f_sz_i hi8
            have e100 := z_tI e96 hsame_100 hdig_100
            refine z_bipush (v := 58) F dX10_writeDebts_103 (by decide) ?_
            refine z_calle (wn := []) (wf := fun u53 => [(a 94, .inr (1, [.ref u53.1, .int 0, .int ml9, .int (nI ((((bn9 + 1) + 1) + f_sz (nI i)) + 1))])), (u53.1, .inl (g 3, u53.2.1, .inl ((zBy u53.2.2))))]) F (z_runV (st := []) F ((zJ_ok D g dg)) E.2 (fun sz => c_J4_append_cf468 l D g dg (a 94) b9_100 ml9 (((bn9 + 1) + 1) + f_sz (nI i)) c9_100 f9_100 58 (by omega) (by omega) (by omega) (by decide) sz) (cwV 1 F.1.2.2.2.2 gX10_writeDebts_J4_append_cf468 rfl rfl rfl (by decide +kernel) ⟨Nat.le_of_ble_eq_true rfl, Nat.le_of_ble_eq_true rfl⟩) 0 rfl rfl rfl [0, 1] [] rfl rfl (by decide) rfl rfl (Nat.le_of_ble_eq_true rfl) dX10_writeDebts_105 ⟨by dsimp only; omega, by dsimp only; omega⟩) [0, 1] [] [0, 1] rfl rfl (by decide) (by decide) (by decide) (fun _ => rfl) (fun r54 u53 hw52 => ?_)
            obtain ⟨b9_105, c9_105, f9_105⟩ := u53
            obtain ⟨r105_, hcc_105, hc3_105, hsame_105, hnew_105⟩ := hw52
            try dsimp only at hcc_105
            try dsimp only at hc3_105
            try dsimp only at hsame_105
            try dsimp only at hnew_105
            subst r105_
            refine z_st (st' := [.ref (a 94)]) rfl ?_
            have e105 := z_tC e100 hsame_105 hnew_105
            refine z_iload_n F 0 dX10_writeDebts_108 rfl rfl ?_
            refine z_calle (wn := []) (wf := fun u56 => [(a 94, .inr (1, [.ref u56.1, .int 0, .int ml9, .int (nI (((((bn9 + 1) + 1) + f_sz (nI i)) + 1) + f_sz (am (8 * x + i))))])), (u56.1, .inl (g 3, u56.2.1, .inl ((zBy u56.2.2))))]) F (z_runV (st := []) F ((zJ_ok D g dg)) E.2 (fun sz => c_J4_append_bf812 l D g dg (a 94) b9_105 ml9 ((((bn9 + 1) + 1) + f_sz (nI i)) + 1) c9_105 f9_105 (am (8 * x + i)) (by omega) (by omega) (by omega) sz) (cwV 1 F.1.2.2.2.2 gX10_writeDebts_J4_append_bf812 rfl rfl rfl (by decide +kernel) ⟨Nat.le_of_ble_eq_true rfl, Nat.le_of_ble_eq_true rfl⟩) 0 rfl rfl rfl [0, 1] [] rfl rfl (by decide) rfl rfl (Nat.le_of_ble_eq_true rfl) dX10_writeDebts_109 ⟨by dsimp only; omega, by dsimp only; omega⟩) [0, 1] [] [0, 1] rfl rfl (by decide) (by decide) (by decide) (fun _ => rfl) (fun r57 u56 hw55 => ?_)
            obtain ⟨b9_109, c9_109, f9_109⟩ := u56
            obtain ⟨r109_, hcc_109, hc3_109, hsame_109, hdig_109, hcap_109⟩ := hw55
            try dsimp only at hcc_109
            try dsimp only at hc3_109
            try dsimp only at hsame_109
            try dsimp only at hdig_109
            try dsimp only at hcap_109
            subst r109_
            refine z_st (st' := [.ref (a 94)]) rfl ?_
            have z109 := f_sz_pos hv1
            have e109 := z_tI e105 hsame_109 hdig_109
            refine z_pop F dX10_writeDebts_112 rfl ?_
            refine z_iinc (v := nI (i + 1)) (lv' := [(2, .int (nI (i + 1))), (3, .int (am (8 * x + i))), (0, .ref (a 0)), (1, .int (nI x))]) F dX10_writeDebts_113 3 rfl (nI_1 i) (by decide) rfl ?_
            refine z_goto (tgt := 65) F dX10_writeDebts_116 (by decide) ?_
            refine z_loc (lv' := [(0, .ref (a 0)), (1, .int (nI x)), (2, .int (nI (i + 1)))]) [2, 3, 0] rfl ?_
            refine z_wide (k := 5 + 5 * (i + 1)) (n := 1206 + 1500 * (i + 1)) (by first | exact Nat.le_of_ble_eq_true rfl | omega) (by first | exact Nat.le_of_ble_eq_true rfl | omega) ?_
            exact ih65 (i + 1) b9_109 c9_109 f9_109 ml9 (((((bn9 + 1) + 1) + f_sz (nI i)) + 1) + f_sz (am (8 * x + i))) (by omega) (by omega) (by rw [show f_wN am co bo x (i + 1) = tI (tC (tI (tC (tC (f_wN am co bo x i) 32) 62) (nI i)) 58) (am (8 * x + i)) from if_neg hv0]; exact e109) (by omega) ⟨by omega, by omega⟩
    refine z_loc (lv' := [(0, .ref (a 0)), (1, .int (nI x)), (2, .int (nI 0))]) [1, 2, 0] rfl ?_
    refine z_wide (k := 5 + 5 * 0) (n := 1206 + 1500 * 0) (by first | exact Nat.le_of_ble_eq_true rfl | omega) (by first | exact Nat.le_of_ble_eq_true rfl | omega) ?_
    exact L65 _ 0 b9_59 c9_59 f9_59 ml9_16 (((0 + f_sz (co x)) + 1) + 1) (Nat.lt_succ_self _) (by omega) (by rw [show f_wN am co bo x 0 = tC (tC (tI t0 (co x)) 99) 33 from if_neg hb0]; exact e59) (by omega) ⟨by omega, by omega⟩
