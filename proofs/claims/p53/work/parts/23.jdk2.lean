/-! NUMBERS AS TEXT -/
def f_ab (v : Int32) : Nat := v.toInt.natAbs
def f_sg (v : Int32) : Nat := if v < 0 then 1 else 0
def f_dl (n : Nat) : Nat := if n < 10 then 1 else if n < 100 then 2 else if n < 1000 then 3 else if n < 10000 then 4 else if n < 100000 then 5 else if n < 1000000 then 6 else if n < 10000000 then 7 else if n < 100000000 then 8 else if n < 1000000000 then 9 else 10
def f_dc (n j : Nat) : Int8 := (48 + nI (n / 10 ^ j % 10)).toInt8
def f_sz (v : Int32) : Nat := f_sg v + f_dl (f_ab v)
def f_dg (v : Int32) (t : Nat) : Int8 := if f_sz v - 1 - t < f_dl (f_ab v) then f_dc (f_ab v) (f_sz v - 1 - t) else 45
theorem f_ab_le (v : Int32) : f_ab v ≤ 2147483648 := by
  have h1 := Int32.toInt_lt v
  have h2 := Int32.le_toInt v
  unfold f_ab
  omega
theorem f_dl_le (n : Nat) : f_dl n ≤ 10 := by
  unfold f_dl
  repeat' split
  all_goals omega
theorem f_dl_pos (n : Nat) : 1 ≤ f_dl n := by
  unfold f_dl
  repeat' split
  all_goals omega
theorem f_dl_100 {n : Nat} (h : 100 ≤ n) (hn : n ≤ 2147483648) : f_dl n = 2 + f_dl (n / 100) := by
  unfold f_dl
  repeat' split
  all_goals omega
theorem f_dl_small {n : Nat} (h : n < 100) : f_dl n = if n < 10 then 1 else 2 := by
  unfold f_dl
  split
  · rfl
  · rfl
theorem z_negI {v : Int32} (h : 0 ≤ v.toInt) : (-v).toInt = -v.toInt := by
  have h1 := Int32.toInt_lt v
  rw [Int32.toInt_neg]
  exact Int.bmod_eq_of_le (by omega) (by omega)
theorem z_abT {v : Int32} (h : v < 0) : v.toInt = -(f_ab v : Int) := by
  have h1 := Int32.lt_iff_toInt_lt.mp h
  rw [Int32.toInt_zero] at h1
  unfold f_ab
  omega
theorem z_abF {v : Int32} (h : ¬ v < 0) : (-v).toInt = -(f_ab v : Int) := by
  have h1 : ¬ v.toInt < 0 := fun q => h (Int32.lt_iff_toInt_lt.mpr (by rw [Int32.toInt_zero]; exact q))
  rw [z_negI (by omega)]
  unfold f_ab
  omega
theorem z_div100 {x : Int32} {m : Nat} (hx : x.toInt = -(m : Int)) (hm : m ≤ 2147483648) : (x / 100).toInt = -((m / 100 : Nat) : Int) := by
  rw [Int32.toInt_div, hx, show (100 : Int32).toInt = 100 from rfl, Int.neg_tdiv, show (-((m : Int).tdiv 100)) = -((m / 100 : Nat) : Int) from by rw [show (100 : Int) = ((100 : Nat) : Int) from rfl, ← Int.ofNat_tdiv]]
  exact Int.bmod_eq_of_le (by omega) (by omega)
theorem z_rem100 {x : Int32} {m : Nat} (hx : x.toInt = -(m : Int)) (hm : m ≤ 2147483648) : x / 100 * 100 - x = nI (m % 100) := by
  apply Int32.toInt_inj.mp
  have h1 : (x / 100 * 100).toInt = -((m / 100 * 100 : Nat) : Int) := by
    rw [Int32.toInt_mul, z_div100 hx hm, show (100 : Int32).toInt = 100 from rfl]
    rw [Int.bmod_eq_of_le (by omega) (by omega)]
    omega
  rw [Int32.toInt_sub, h1, hx, nI_toInt (by omega)]
  rw [Int.bmod_eq_of_le (by omega) (by omega)]
  omega
theorem z_negN {x : Int32} {m : Nat} (hx : x.toInt = -(m : Int)) (hm : m < 2147483648) : -x = nI m := by
  apply Int32.toInt_inj.mp
  rw [Int32.toInt_neg, hx, nI_toInt hm]
  rw [Int.bmod_eq_of_le (by omega) (by omega)]
  omega
theorem z_gtN {x : Int32} {m k : Nat} {y : Int32} (hx : x.toInt = -(m : Int)) (hy : y.toInt = -(k : Int)) : y < x ↔ m < k := by
  rw [Int32.lt_iff_toInt_lt, hx, hy]
  omega
theorem f_dc0 (n q : Nat) : f_dc n (2 * q) = (48 + nI (n / 100 ^ q % 100 % 10)).toInt8 := by
  unfold f_dc
  rw [Nat.pow_mul, show 10 ^ 2 = 100 from rfl, show n / 100 ^ q % 100 % 10 = n / 100 ^ q % 10 by omega]
theorem f_dc1 (n q : Nat) : f_dc n (2 * q + 1) = (48 + nI (n / 100 ^ q % 100 / 10)).toInt8 := by
  unfold f_dc
  rw [Nat.pow_add, Nat.pow_mul, show 10 ^ 2 = 100 from rfl, Nat.pow_one, ← Nat.div_div_eq_div_mul, show n / 100 ^ q % 100 / 10 = n / 100 ^ q / 10 % 10 by omega]
theorem z_t8 (v : Int32) : v.toInt8.toInt32.toInt8 = v.toInt8 := Int8.toInt8_toInt32 _
theorem z_leN {x : Int32} {m k : Nat} {y : Int32} (hx : x.toInt = -(m : Int)) (hy : y.toInt = -(k : Int)) : x ≤ y ↔ k ≤ m := by
  rw [Int32.le_iff_toInt_le, hx, hy]
  omega
theorem z_ss {v : Int32} {s d : Nat} (hs : f_sg v = s) (hlo : d = 1 ∨ 10 ^ (d - 1) ≤ f_ab v) (hhi : f_ab v < 10 ^ d ∨ d = 10) (hd : 1 ≤ d ∧ d ≤ 10) : f_sz v = s + d := by
  have h : f_dl (f_ab v) = d := by
    rcases (by omega : d = 1 ∨ d = 2 ∨ d = 3 ∨ d = 4 ∨ d = 5 ∨ d = 6 ∨ d = 7 ∨ d = 8 ∨ d = 9 ∨ d = 10) with rfl | rfl | rfl | rfl | rfl | rfl | rfl | rfl | rfl | rfl
    all_goals
      unfold f_dl
      repeat' split
      all_goals omega
  rw [f_sz, hs, h]
theorem f_one8 (k : Nat) : (f_one k).toInt8 = (48 + nI (k % 10)).toInt8 := rfl
theorem f_ten8 (k : Nat) : (f_ten k).toInt8 = (48 + nI (k / 10)).toInt8 := rfl
set_option maxHeartbeats 4000000 in
set_option maxRecDepth 100000 in
theorem c_J5_append_3fe6f (l : Launch) (D : va_G) (g : Nat → ClassId) (dg : Nat → Nat) (b0 : Nat) (b1 : Nat) (ml : Int32) (bn : Nat) (bc : Nat) (bp : Nat → Int8) (v : Int32) (hbc : bn ≤ bc) (hb3 : bc ≤ 300) (hb1 : bn ≤ 125) (hv : ¬ 255 < v) (sz : Nat) : Met l yJ5_append_3fe6f wsJ5_append_3fe6f { frames := 4, cells := 1, slots := 300, locals := 84 } (zPc D (gT g) (zJ D g dg) [.ref b0, .int v] [(b0, .inr (1, [.ref b1, .int 0, .int ml, .int (nI bn)])), (b1, .inl (g 3, bc, .inl ((zBy bp))))] [] sz) (zQe (fun _ => b0) D [(b0, .inr (1, [.ref b1, .int 0, .int ml, .int (nI bn)])), (b1, .inl (g 3, bc, .inl ((zBy bp))))] (fun (r : Option Nat) (u : Nat × Nat × (Nat → Int8)) => r = some 0 ∧ bn + 1 ≤ u.2.1 ∧ u.2.1 ≤ 300 ∧ (∀ k, k < bn → u.2.2 k = bp k) ∧ u.2.2 bn = v.toInt8) (fun (u9 : Nat × Nat × (Nat → Int8)) => [(b0, .inr (1, [.ref u9.1, .int 0, .int ml, .int (nI (bn + 1))])), (u9.1, .inl (g 3, u9.2.1, .inl ((zBy u9.2.2))))]) sz) 1 300 (va_A [(b0, .inr (1, [.ref b1, .int 0, .int ml, .int (nI bn)])), (b1, .inl (g 3, bc, .inl ((zBy bp))))] sz) := by
  refine z_met (y := yJ5_append_3fe6f) (cc := cJ5_append_3fe6f) (nL := 2) (rm := { frames := 4, cells := 1, slots := 300, locals := 84 }) (D := D) (tys := gT g) (wr := []) (P0 := zJ D g dg) (As := [.ref b0, .int v]) (ww := [(b0, .inr (1, [.ref b1, .int 0, .int ml, .int (nI bn)])), (b1, .inl (g 3, bc, .inl ((zBy bp))))]) (Qc := zQe (fun _ => b0) D [(b0, .inr (1, [.ref b1, .int 0, .int ml, .int (nI bn)])), (b1, .inl (g 3, bc, .inl ((zBy bp))))] (fun (r : Option Nat) (u : Nat × Nat × (Nat → Int8)) => r = some 0 ∧ bn + 1 ≤ u.2.1 ∧ u.2.1 ≤ 300 ∧ (∀ k, k < bn → u.2.2 k = bp k) ∧ u.2.2 bn = v.toInt8) (fun (u9 : Nat × Nat × (Nat → Int8)) => [(b0, .inr (1, [.ref u9.1, .int 0, .int ml, .int (nI (bn + 1))])), (u9.1, .inl (g 3, u9.2.1, .inl ((zBy u9.2.2))))])) (ret := (some (.object "java/lang/AbstractStringBuilder"))) (by decide) rfl (Nat.le_of_ble_eq_true rfl) ?_ sz
  intro p e s m args below meth c A Q hA hQ F E hr hlk hin
  show zW p l e { frames := 4, cells := 1, slots := 300, locals := 84 } s m args below meth c 2 D A Q 0 0 [(b0, .inr (1, [.ref b1, .int 0, .int ml, .int (nI bn)])), (b1, .inl (g 3, bc, .inl ((zBy bp))))] [(0, .ref b0), (1, .int v)] [] 0
  refine z_aload_n F 0 dJ5_append_3fe6f_0 rfl rfl ?_
  refine z_aload_n F 0 dJ5_append_3fe6f_1 rfl rfl ?_
  refine z_get (C := RJ4) (T := TJ4) (N := 4) F (fun w h => List.mem_cons_of_mem _ (List.mem_append_right _ (h))) 0 rfl rfl 3 (by decide) (List.mem_cons_of_mem _ (List.mem_append_left _ (List.mem_append_left _ (List.mem_of_getElem? (i := 0) rfl)))) rfl rfl dJ5_append_3fe6f_2 ?_
  refine z_iconst (v := 1) F dJ5_append_3fe6f_5 (by decide) ?_
  refine z_iadd F dJ5_append_3fe6f_6 ?_
  refine z_top (y := nI (bn + 1)) (nI_1 bn) ?_
  refine z_callv (wn := []) (wf := fun u2 => [(b0, .inr (1, [.ref u2.1, .int 0, .int ml, .int (nI bn)])), (u2.1, .inl (g 3, u2.2.1, .inl ((zBy u2.2.2))))]) F (z_runU (st := []) F zNo_ok trivial (fun sz => c_J5_ensureCapacityInternal_d00df l D g b0 b1 ml bn bc bp (bn + 1) (hb3) (by omega) sz) (va_cwU 1 F.1.2.2.2.2 gJ5_append_3fe6f_J5_ensureCapacityInternal_d00df_u100J4 rfl rfl rfl rfl (by decide +kernel) ⟨Nat.le_of_ble_eq_true rfl, Nat.le_of_ble_eq_true rfl⟩) 0 rfl rfl rfl [0, 1] [] rfl rfl (by decide) rfl rfl (Nat.le_of_ble_eq_true rfl) dJ5_append_3fe6f_7 ⟨Nat.le_of_ble_eq_true rfl, Nat.le_of_ble_eq_true rfl⟩) [0, 1] [] [0, 1] rfl rfl (by decide) (by decide) (by decide) (fun _ => rfl) (fun u2 hw1 => ?_)
  obtain ⟨b9_7, c9_7, f9_7⟩ := u2
  obtain ⟨hm9_7, hbc9_7, hc3_7, hsame_7, hcap_7⟩ := hw1
  try dsimp only at hm9_7
  try dsimp only at hbc9_7
  try dsimp only at hc3_7
  try dsimp only at hsame_7
  try dsimp only at hcap_7
  refine z_aload_n F 0 dJ5_append_3fe6f_10 rfl rfl ?_
  refine z_calli0 F (z_runU (st := []) F ((zJ_ok D g dg)) E (fun sz => c_J5_isLatin1_aae02 l D g dg b0 b9_7 ml bn sz) (va_cwU 0 F.1.2.2.2.2 gJ5_append_3fe6f_J5_isLatin1_aae02_u83J4 rfl rfl rfl rfl (by decide +kernel) ⟨Nat.le_of_ble_eq_true rfl, Nat.le_of_ble_eq_true rfl⟩) 0 rfl rfl rfl [] [0] rfl rfl (by decide) rfl rfl (Nat.le_of_ble_eq_true rfl) dJ5_append_3fe6f_11 ⟨Nat.le_of_ble_eq_true rfl, Nat.le_of_ble_eq_true rfl⟩) (fun r4 _ hw3 => ?_)
  subst hw3
  refine z_if_eq (tgt := 45) F dJ5_append_3fe6f_14 (by decide) (fun c5 => ?_) (fun c5 => ?_)
  · exact absurd c5 (by decide)
  · refine z_iload_n F 1 dJ5_append_3fe6f_17 rfl rfl ?_
    refine z_calli0 F (z_runS (st := []) F zNo_ok trivial (fun sz => c_J1_canEncode_fc78d l D g v (hv) sz) (va_cwS 1 F.1.2.2.2.2 gJ5_append_3fe6f_J1_canEncode_fc78d rfl rfl rfl (by decide +kernel) ⟨Nat.le_of_ble_eq_true rfl, Nat.le_of_ble_eq_true rfl⟩) [] [] rfl rfl (by decide) rfl rfl (Nat.le_of_ble_eq_true rfl) dJ5_append_3fe6f_18 ⟨Nat.le_of_ble_eq_true rfl, Nat.le_of_ble_eq_true rfl⟩) (fun r7 _ hw6 => ?_)
    subst hw6
    refine z_if_eq (tgt := 45) F dJ5_append_3fe6f_21 (by decide) (fun c8 => ?_) (fun c8 => ?_)
    · exact absurd c8 (by decide)
    · refine z_aload_n F 0 dJ5_append_3fe6f_24 rfl rfl ?_
      refine z_get (C := RJ4) (T := TJ4) (N := 4) F (fun w h => List.mem_cons_of_mem _ (List.mem_append_right _ (h))) 0 rfl rfl 0 (by decide) (List.mem_cons_of_mem _ (List.mem_append_left _ (List.mem_append_left _ (List.mem_of_getElem? (i := 1) rfl)))) rfl rfl dJ5_append_3fe6f_25 ?_
      refine z_aload_n F 0 dJ5_append_3fe6f_28 rfl rfl ?_
      refine z_dup F dJ5_append_3fe6f_29 rfl ?_
      refine z_get (C := RJ4) (T := TJ4) (N := 4) F (fun w h => List.mem_cons_of_mem _ (List.mem_append_right _ (h))) 0 rfl rfl 3 (by decide) (List.mem_cons_of_mem _ (List.mem_append_left _ (List.mem_append_left _ (List.mem_of_getElem? (i := 0) rfl)))) rfl rfl dJ5_append_3fe6f_30 ?_
      refine z_dup_x1 F dJ5_append_3fe6f_33 rfl rfl ?_
      refine z_iconst (v := 1) F dJ5_append_3fe6f_34 (by decide) ?_
      refine z_iadd F dJ5_append_3fe6f_35 ?_
      refine z_top (y := nI (bn + 1)) (nI_1 bn) ?_
      refine z_put (C := RJ4) (T := TJ4) (N := 4) (ty := .int) (ws' := [(b0, .inr (1, [.ref b9_7, .int 0, .int ml, .int (nI (bn + 1))])), (b9_7, .inl (g 3, c9_7, .inl ((zBy f9_7))))]) F (fun w h => List.mem_cons_of_mem _ (List.mem_append_right _ (h))) tyJ4 tyJ4_ok nmJ4 0 rfl rfl 3 (by decide) (List.mem_cons_of_mem _ (List.mem_append_left _ (List.mem_append_left _ (List.mem_of_getElem? (i := 0) rfl)))) rfl rfl (by decide +kernel) (rfl) (rfl) (Nat.le_of_ble_eq_true rfl) rfl dJ5_append_3fe6f_36 ?_
      refine z_iload_n F 1 dJ5_append_3fe6f_39 rfl rfl ?_
      refine z_i2b F dJ5_append_3fe6f_40 rfl ?_
      refine z_bastN (j := bn) (ws' := [(b0, .inr (1, [.ref b9_7, .int 0, .int ml, .int (nI (bn + 1))])), (b9_7, .inl (g 3, c9_7, .inl (upd ((zBy f9_7)) bn (vp_nar .byte v.toInt8.toInt32))))]) F 1 3 rfl rfl (by omega) (by omega) rfl dJ5_append_3fe6f_41 ?_
      refine z_cext (f' := (zBy (zUp f9_7 bn v.toInt8.toInt32))) (ws' := [(b0, .inr (1, [.ref b9_7, .int 0, .int ml, .int (nI (bn + 1))])), (b9_7, .inl (g 3, c9_7, .inl ((zBy (zUp f9_7 bn v.toInt8.toInt32)))))]) 1 rfl (z_upP f9_7 bn v.toInt8.toInt32 _) rfl ?_
      refine z_goto (tgt := 75) F dJ5_append_3fe6f_42 (by decide) ?_
      refine z_aload_n F 0 dJ5_append_3fe6f_75 rfl rfl ?_
      refine z_wide (k := 1) (n := 300) (by first | exact Nat.le_refl _ | omega) (by first | exact Nat.le_refl _ | omega) ?_
      exact z_eret F hA hQ hlk hr (v := some 0) rfl (b9_7, c9_7, zUp f9_7 bn v.toInt8.toInt32) (⟨rfl, by dsimp only; omega, by dsimp only; omega, fun k hk => (if_neg (Nat.ne_of_lt hk)).trans (hsame_7 k (by omega)), (if_pos rfl).trans (z_t8 v)⟩) (rfl) dJ5_append_3fe6f_76
set_option maxHeartbeats 4000000 in
set_option maxRecDepth 100000 in
theorem c_J4_append_cf468 (l : Launch) (D : va_G) (g : Nat → ClassId) (dg : Nat → Nat) (b0 : Nat) (b1 : Nat) (ml : Int32) (bn : Nat) (bc : Nat) (bp : Nat → Int8) (v : Int32) (hbc : bn ≤ bc) (hb3 : bc ≤ 300) (hb1 : bn ≤ 125) (hv : ¬ 255 < v) (sz : Nat) : Met l yJ4_append_cf468 wsJ4_append_cf468 { frames := 5, cells := 1, slots := 300, locals := 105 } (zPc D (gT g) (zJ D g dg) [.ref b0, .int v] [(b0, .inr (1, [.ref b1, .int 0, .int ml, .int (nI bn)])), (b1, .inl (g 3, bc, .inl ((zBy bp))))] [] sz) (zQe (fun _ => b0) D [(b0, .inr (1, [.ref b1, .int 0, .int ml, .int (nI bn)])), (b1, .inl (g 3, bc, .inl ((zBy bp))))] (fun (r : Option Nat) (u : Nat × Nat × (Nat → Int8)) => r = some 0 ∧ bn + 1 ≤ u.2.1 ∧ u.2.1 ≤ 300 ∧ (∀ k, k < bn → u.2.2 k = bp k) ∧ u.2.2 bn = v.toInt8) (fun (u9 : Nat × Nat × (Nat → Int8)) => [(b0, .inr (1, [.ref u9.1, .int 0, .int ml, .int (nI (bn + 1))])), (u9.1, .inl (g 3, u9.2.1, .inl ((zBy u9.2.2))))]) sz) 1 300 (va_A [(b0, .inr (1, [.ref b1, .int 0, .int ml, .int (nI bn)])), (b1, .inl (g 3, bc, .inl ((zBy bp))))] sz) := by
  refine z_met (y := yJ4_append_cf468) (cc := cJ4_append_cf468) (nL := 2) (rm := { frames := 5, cells := 1, slots := 300, locals := 105 }) (D := D) (tys := gT g) (wr := []) (P0 := zJ D g dg) (As := [.ref b0, .int v]) (ww := [(b0, .inr (1, [.ref b1, .int 0, .int ml, .int (nI bn)])), (b1, .inl (g 3, bc, .inl ((zBy bp))))]) (Qc := zQe (fun _ => b0) D [(b0, .inr (1, [.ref b1, .int 0, .int ml, .int (nI bn)])), (b1, .inl (g 3, bc, .inl ((zBy bp))))] (fun (r : Option Nat) (u : Nat × Nat × (Nat → Int8)) => r = some 0 ∧ bn + 1 ≤ u.2.1 ∧ u.2.1 ≤ 300 ∧ (∀ k, k < bn → u.2.2 k = bp k) ∧ u.2.2 bn = v.toInt8) (fun (u9 : Nat × Nat × (Nat → Int8)) => [(b0, .inr (1, [.ref u9.1, .int 0, .int ml, .int (nI (bn + 1))])), (u9.1, .inl (g 3, u9.2.1, .inl ((zBy u9.2.2))))])) (ret := (some (.object "java/lang/StringBuilder"))) (by decide) rfl (Nat.le_of_ble_eq_true rfl) ?_ sz
  intro p e s m args below meth c A Q hA hQ F E hr hlk hin
  show zW p l e { frames := 5, cells := 1, slots := 300, locals := 105 } s m args below meth c 2 D A Q 0 0 [(b0, .inr (1, [.ref b1, .int 0, .int ml, .int (nI bn)])), (b1, .inl (g 3, bc, .inl ((zBy bp))))] [(0, .ref b0), (1, .int v)] [] 0
  refine z_aload_n F 0 dJ4_append_cf468_0 rfl rfl ?_
  refine z_iload_n F 1 dJ4_append_cf468_1 rfl rfl ?_
  refine z_calle (wn := []) (wf := fun u2 => [(b0, .inr (1, [.ref u2.1, .int 0, .int ml, .int (nI (bn + 1))])), (u2.1, .inl (g 3, u2.2.1, .inl ((zBy u2.2.2))))]) F (z_runSU (st := []) F ((zJ_ok D g dg)) E (fun sz => c_J5_append_3fe6f l D g dg b0 b1 ml bn bc bp v (hbc) (hb3) (hb1) (hv) sz) (va_cwSU 1 F.1.2.2.2.2 gJ4_append_cf468_J5_append_3fe6f_s50 rfl rfl rfl (by decide +kernel) ⟨Nat.le_of_ble_eq_true rfl, Nat.le_of_ble_eq_true rfl⟩) 0 rfl rfl rfl [0, 1] [] rfl rfl (by decide) rfl rfl (Nat.le_of_ble_eq_true rfl) dJ4_append_cf468_2 ⟨Nat.le_of_ble_eq_true rfl, Nat.le_of_ble_eq_true rfl⟩) [0, 1] [] [0, 1] rfl rfl (by decide) (by decide) (by decide) (fun _ => rfl) (fun r3 u2 hw1 => ?_)
  obtain ⟨b9_2, c9_2, f9_2⟩ := u2
  obtain ⟨r2_, hcc_2, hc3_2, hsame_2, hnew_2⟩ := hw1
  try dsimp only at hcc_2
  try dsimp only at hc3_2
  try dsimp only at hsame_2
  try dsimp only at hnew_2
  subst r2_
  refine z_st (st' := [.ref b0]) rfl ?_
  refine z_pop F dJ4_append_cf468_5 rfl ?_
  refine z_aload_n F 0 dJ4_append_cf468_6 rfl rfl ?_
  refine z_wide (k := 1) (n := 300) (Nat.le_of_ble_eq_true rfl) (Nat.le_of_ble_eq_true rfl) ?_
  exact z_eret F hA hQ hlk hr (v := some 0) rfl (b9_2, c9_2, f9_2) (⟨rfl, hcc_2, hc3_2, hsame_2, hnew_2⟩) (rfl) dJ4_append_cf468_7
set_option maxHeartbeats 4000000 in
set_option maxRecDepth 100000 in
theorem c_J6_stringSize_0f7a4 (l : Launch) (D : va_G) (g : Nat → ClassId) (v : Int32) (sz : Nat) : Met l yJ6_stringSize_0f7a4 wsJ6_stringSize_0f7a4 { frames := 0, cells := 0, slots := 0, locals := 0 } (zPc D (gT g) zNo [.int v] [] [] sz) (zQi D [] (fun (r : Int32) (_ : Unit) => r = nI (f_sz v)) (fun _ => []) sz) 0 0 (va_A [] sz) := by
  refine z_met (y := yJ6_stringSize_0f7a4) (cc := cJ6_stringSize_0f7a4) (nL := 4) (rm := { frames := 0, cells := 0, slots := 0, locals := 0 }) (D := D) (tys := gT g) (wr := []) (P0 := zNo) (As := [.int v]) (ww := []) (Qc := zQi D [] (fun (r : Int32) (_ : Unit) => r = nI (f_sz v)) (fun _ => [])) (ret := (some .int)) (by decide) rfl (Nat.le_of_ble_eq_true rfl) ?_ sz
  intro p e s m args below meth c A Q hA hQ F E hr hlk hin
  show zW p l e { frames := 0, cells := 0, slots := 0, locals := 0 } s m args below meth c 4 D A Q 0 0 [] [(0, .int v)] [] 0
  refine z_iconst (v := 1) F dJ6_stringSize_0f7a4_0 (by decide) ?_
  refine z_istore_n (lv' := [(1, .int 1), (0, .int v)]) F dJ6_stringSize_0f7a4_1 rfl (by decide) rfl ?_
  refine z_iload_n F 1 dJ6_stringSize_0f7a4_2 rfl rfl ?_
  refine z_if_lt (tgt := 11) F dJ6_stringSize_0f7a4_3 (by decide) (fun c1 => ?_) (fun c1 => ?_)
  · refine z_bipush (v := (-10)) F dJ6_stringSize_0f7a4_11 (by decide) ?_
    refine z_istore_n (lv' := [(2, .int (-10)), (1, .int 1), (0, .int v)]) F dJ6_stringSize_0f7a4_13 rfl (by decide) rfl ?_
    refine z_iconst (v := 1) F dJ6_stringSize_0f7a4_14 (by decide) ?_
    refine z_istore_n (lv' := [(3, .int 1), (2, .int (-10)), (1, .int 1), (0, .int v)]) F dJ6_stringSize_0f7a4_15 rfl (by decide) rfl ?_
    refine z_iload_n F 0 dJ6_stringSize_0f7a4_16 rfl rfl ?_
    refine z_bipush (v := 10) F dJ6_stringSize_0f7a4_17 (by decide) ?_
    refine z_icmp_ge (tgt := 42) F dJ6_stringSize_0f7a4_19 (by decide) (fun c2 => ?_) (fun c2 => ?_)
    · exact absurd c2 (by decide)
    · refine z_iload_n F 3 dJ6_stringSize_0f7a4_22 rfl rfl ?_
      refine z_iload_n F 1 dJ6_stringSize_0f7a4_23 rfl rfl ?_
      refine z_icmp_le (tgt := 31) F dJ6_stringSize_0f7a4_24 (by decide) (fun c3 => ?_) (fun c3 => ?_)
      · refine z_bipush (v := 10) F dJ6_stringSize_0f7a4_31 (by decide) ?_
        refine z_iload_n F 1 dJ6_stringSize_0f7a4_33 rfl rfl ?_
        refine z_imul F dJ6_stringSize_0f7a4_34 ?_
        refine z_top (y := -100) (by decide) ?_
        refine z_istore_n (lv' := [(2, .int (-100)), (3, .int 1), (1, .int 1), (0, .int v)]) F dJ6_stringSize_0f7a4_35 rfl (by decide) rfl ?_
        refine z_iinc (v := 2) (lv' := [(3, .int 2), (2, .int (-100)), (1, .int 1), (0, .int v)]) F dJ6_stringSize_0f7a4_36 1 rfl (by decide) (by decide) rfl ?_
        refine z_goto (tgt := 16) F dJ6_stringSize_0f7a4_39 (by decide) ?_
        refine z_iload_n F 0 dJ6_stringSize_0f7a4_16 rfl rfl ?_
        refine z_bipush (v := 10) F dJ6_stringSize_0f7a4_17 (by decide) ?_
        refine z_icmp_ge (tgt := 42) F dJ6_stringSize_0f7a4_19 (by decide) (fun c4 => ?_) (fun c4 => ?_)
        · exact absurd c4 (by decide)
        · refine z_iload_n F 3 dJ6_stringSize_0f7a4_22 rfl rfl ?_
          refine z_iload_n F 1 dJ6_stringSize_0f7a4_23 rfl rfl ?_
          refine z_icmp_le (tgt := 31) F dJ6_stringSize_0f7a4_24 (by decide) (fun c5 => ?_) (fun c5 => ?_)
          · refine z_bipush (v := 10) F dJ6_stringSize_0f7a4_31 (by decide) ?_
            refine z_iload_n F 1 dJ6_stringSize_0f7a4_33 rfl rfl ?_
            refine z_imul F dJ6_stringSize_0f7a4_34 ?_
            refine z_top (y := -1000) (by decide) ?_
            refine z_istore_n (lv' := [(2, .int (-1000)), (3, .int 2), (1, .int 1), (0, .int v)]) F dJ6_stringSize_0f7a4_35 rfl (by decide) rfl ?_
            refine z_iinc (v := 3) (lv' := [(3, .int 3), (2, .int (-1000)), (1, .int 1), (0, .int v)]) F dJ6_stringSize_0f7a4_36 1 rfl (by decide) (by decide) rfl ?_
            refine z_goto (tgt := 16) F dJ6_stringSize_0f7a4_39 (by decide) ?_
            refine z_iload_n F 0 dJ6_stringSize_0f7a4_16 rfl rfl ?_
            refine z_bipush (v := 10) F dJ6_stringSize_0f7a4_17 (by decide) ?_
            refine z_icmp_ge (tgt := 42) F dJ6_stringSize_0f7a4_19 (by decide) (fun c6 => ?_) (fun c6 => ?_)
            · exact absurd c6 (by decide)
            · refine z_iload_n F 3 dJ6_stringSize_0f7a4_22 rfl rfl ?_
              refine z_iload_n F 1 dJ6_stringSize_0f7a4_23 rfl rfl ?_
              refine z_icmp_le (tgt := 31) F dJ6_stringSize_0f7a4_24 (by decide) (fun c7 => ?_) (fun c7 => ?_)
              · refine z_bipush (v := 10) F dJ6_stringSize_0f7a4_31 (by decide) ?_
                refine z_iload_n F 1 dJ6_stringSize_0f7a4_33 rfl rfl ?_
                refine z_imul F dJ6_stringSize_0f7a4_34 ?_
                refine z_top (y := -10000) (by decide) ?_
                refine z_istore_n (lv' := [(2, .int (-10000)), (3, .int 3), (1, .int 1), (0, .int v)]) F dJ6_stringSize_0f7a4_35 rfl (by decide) rfl ?_
                refine z_iinc (v := 4) (lv' := [(3, .int 4), (2, .int (-10000)), (1, .int 1), (0, .int v)]) F dJ6_stringSize_0f7a4_36 1 rfl (by decide) (by decide) rfl ?_
                refine z_goto (tgt := 16) F dJ6_stringSize_0f7a4_39 (by decide) ?_
                refine z_iload_n F 0 dJ6_stringSize_0f7a4_16 rfl rfl ?_
                refine z_bipush (v := 10) F dJ6_stringSize_0f7a4_17 (by decide) ?_
                refine z_icmp_ge (tgt := 42) F dJ6_stringSize_0f7a4_19 (by decide) (fun c8 => ?_) (fun c8 => ?_)
                · exact absurd c8 (by decide)
                · refine z_iload_n F 3 dJ6_stringSize_0f7a4_22 rfl rfl ?_
                  refine z_iload_n F 1 dJ6_stringSize_0f7a4_23 rfl rfl ?_
                  refine z_icmp_le (tgt := 31) F dJ6_stringSize_0f7a4_24 (by decide) (fun c9 => ?_) (fun c9 => ?_)
                  · refine z_bipush (v := 10) F dJ6_stringSize_0f7a4_31 (by decide) ?_
                    refine z_iload_n F 1 dJ6_stringSize_0f7a4_33 rfl rfl ?_
                    refine z_imul F dJ6_stringSize_0f7a4_34 ?_
                    refine z_top (y := -100000) (by decide) ?_
                    refine z_istore_n (lv' := [(2, .int (-100000)), (3, .int 4), (1, .int 1), (0, .int v)]) F dJ6_stringSize_0f7a4_35 rfl (by decide) rfl ?_
                    refine z_iinc (v := 5) (lv' := [(3, .int 5), (2, .int (-100000)), (1, .int 1), (0, .int v)]) F dJ6_stringSize_0f7a4_36 1 rfl (by decide) (by decide) rfl ?_
                    refine z_goto (tgt := 16) F dJ6_stringSize_0f7a4_39 (by decide) ?_
                    refine z_iload_n F 0 dJ6_stringSize_0f7a4_16 rfl rfl ?_
                    refine z_bipush (v := 10) F dJ6_stringSize_0f7a4_17 (by decide) ?_
                    refine z_icmp_ge (tgt := 42) F dJ6_stringSize_0f7a4_19 (by decide) (fun c10 => ?_) (fun c10 => ?_)
                    · exact absurd c10 (by decide)
                    · refine z_iload_n F 3 dJ6_stringSize_0f7a4_22 rfl rfl ?_
                      refine z_iload_n F 1 dJ6_stringSize_0f7a4_23 rfl rfl ?_
                      refine z_icmp_le (tgt := 31) F dJ6_stringSize_0f7a4_24 (by decide) (fun c11 => ?_) (fun c11 => ?_)
                      · refine z_bipush (v := 10) F dJ6_stringSize_0f7a4_31 (by decide) ?_
                        refine z_iload_n F 1 dJ6_stringSize_0f7a4_33 rfl rfl ?_
                        refine z_imul F dJ6_stringSize_0f7a4_34 ?_
                        refine z_top (y := -1000000) (by decide) ?_
                        refine z_istore_n (lv' := [(2, .int (-1000000)), (3, .int 5), (1, .int 1), (0, .int v)]) F dJ6_stringSize_0f7a4_35 rfl (by decide) rfl ?_
                        refine z_iinc (v := 6) (lv' := [(3, .int 6), (2, .int (-1000000)), (1, .int 1), (0, .int v)]) F dJ6_stringSize_0f7a4_36 1 rfl (by decide) (by decide) rfl ?_
                        refine z_goto (tgt := 16) F dJ6_stringSize_0f7a4_39 (by decide) ?_
                        refine z_iload_n F 0 dJ6_stringSize_0f7a4_16 rfl rfl ?_
                        refine z_bipush (v := 10) F dJ6_stringSize_0f7a4_17 (by decide) ?_
                        refine z_icmp_ge (tgt := 42) F dJ6_stringSize_0f7a4_19 (by decide) (fun c12 => ?_) (fun c12 => ?_)
                        · exact absurd c12 (by decide)
                        · refine z_iload_n F 3 dJ6_stringSize_0f7a4_22 rfl rfl ?_
                          refine z_iload_n F 1 dJ6_stringSize_0f7a4_23 rfl rfl ?_
                          refine z_icmp_le (tgt := 31) F dJ6_stringSize_0f7a4_24 (by decide) (fun c13 => ?_) (fun c13 => ?_)
                          · refine z_bipush (v := 10) F dJ6_stringSize_0f7a4_31 (by decide) ?_
                            refine z_iload_n F 1 dJ6_stringSize_0f7a4_33 rfl rfl ?_
                            refine z_imul F dJ6_stringSize_0f7a4_34 ?_
                            refine z_top (y := -10000000) (by decide) ?_
                            refine z_istore_n (lv' := [(2, .int (-10000000)), (3, .int 6), (1, .int 1), (0, .int v)]) F dJ6_stringSize_0f7a4_35 rfl (by decide) rfl ?_
                            refine z_iinc (v := 7) (lv' := [(3, .int 7), (2, .int (-10000000)), (1, .int 1), (0, .int v)]) F dJ6_stringSize_0f7a4_36 1 rfl (by decide) (by decide) rfl ?_
                            refine z_goto (tgt := 16) F dJ6_stringSize_0f7a4_39 (by decide) ?_
                            refine z_iload_n F 0 dJ6_stringSize_0f7a4_16 rfl rfl ?_
                            refine z_bipush (v := 10) F dJ6_stringSize_0f7a4_17 (by decide) ?_
                            refine z_icmp_ge (tgt := 42) F dJ6_stringSize_0f7a4_19 (by decide) (fun c14 => ?_) (fun c14 => ?_)
                            · exact absurd c14 (by decide)
                            · refine z_iload_n F 3 dJ6_stringSize_0f7a4_22 rfl rfl ?_
                              refine z_iload_n F 1 dJ6_stringSize_0f7a4_23 rfl rfl ?_
                              refine z_icmp_le (tgt := 31) F dJ6_stringSize_0f7a4_24 (by decide) (fun c15 => ?_) (fun c15 => ?_)
                              · refine z_bipush (v := 10) F dJ6_stringSize_0f7a4_31 (by decide) ?_
                                refine z_iload_n F 1 dJ6_stringSize_0f7a4_33 rfl rfl ?_
                                refine z_imul F dJ6_stringSize_0f7a4_34 ?_
                                refine z_top (y := -100000000) (by decide) ?_
                                refine z_istore_n (lv' := [(2, .int (-100000000)), (3, .int 7), (1, .int 1), (0, .int v)]) F dJ6_stringSize_0f7a4_35 rfl (by decide) rfl ?_
                                refine z_iinc (v := 8) (lv' := [(3, .int 8), (2, .int (-100000000)), (1, .int 1), (0, .int v)]) F dJ6_stringSize_0f7a4_36 1 rfl (by decide) (by decide) rfl ?_
                                refine z_goto (tgt := 16) F dJ6_stringSize_0f7a4_39 (by decide) ?_
                                refine z_iload_n F 0 dJ6_stringSize_0f7a4_16 rfl rfl ?_
                                refine z_bipush (v := 10) F dJ6_stringSize_0f7a4_17 (by decide) ?_
                                refine z_icmp_ge (tgt := 42) F dJ6_stringSize_0f7a4_19 (by decide) (fun c16 => ?_) (fun c16 => ?_)
                                · exact absurd c16 (by decide)
                                · refine z_iload_n F 3 dJ6_stringSize_0f7a4_22 rfl rfl ?_
                                  refine z_iload_n F 1 dJ6_stringSize_0f7a4_23 rfl rfl ?_
                                  refine z_icmp_le (tgt := 31) F dJ6_stringSize_0f7a4_24 (by decide) (fun c17 => ?_) (fun c17 => ?_)
                                  · refine z_bipush (v := 10) F dJ6_stringSize_0f7a4_31 (by decide) ?_
                                    refine z_iload_n F 1 dJ6_stringSize_0f7a4_33 rfl rfl ?_
                                    refine z_imul F dJ6_stringSize_0f7a4_34 ?_
                                    refine z_top (y := -1000000000) (by decide) ?_
                                    refine z_istore_n (lv' := [(2, .int (-1000000000)), (3, .int 8), (1, .int 1), (0, .int v)]) F dJ6_stringSize_0f7a4_35 rfl (by decide) rfl ?_
                                    refine z_iinc (v := 9) (lv' := [(3, .int 9), (2, .int (-1000000000)), (1, .int 1), (0, .int v)]) F dJ6_stringSize_0f7a4_36 1 rfl (by decide) (by decide) rfl ?_
                                    refine z_goto (tgt := 16) F dJ6_stringSize_0f7a4_39 (by decide) ?_
                                    refine z_iload_n F 0 dJ6_stringSize_0f7a4_16 rfl rfl ?_
                                    refine z_bipush (v := 10) F dJ6_stringSize_0f7a4_17 (by decide) ?_
                                    refine z_icmp_ge (tgt := 42) F dJ6_stringSize_0f7a4_19 (by decide) (fun c18 => ?_) (fun c18 => ?_)
                                    · exact absurd c18 (by decide)
                                    · refine z_iload_n F 3 dJ6_stringSize_0f7a4_22 rfl rfl ?_
                                      refine z_iload_n F 1 dJ6_stringSize_0f7a4_23 rfl rfl ?_
                                      refine z_icmp_le (tgt := 31) F dJ6_stringSize_0f7a4_24 (by decide) (fun c19 => ?_) (fun c19 => ?_)
                                      · refine z_bipush (v := 10) F dJ6_stringSize_0f7a4_31 (by decide) ?_
                                        refine z_iload_n F 1 dJ6_stringSize_0f7a4_33 rfl rfl ?_
                                        refine z_imul F dJ6_stringSize_0f7a4_34 ?_
                                        refine z_top (y := -1410065408) (by decide) ?_
                                        refine z_istore_n (lv' := [(2, .int (-1410065408)), (3, .int 9), (1, .int 1), (0, .int v)]) F dJ6_stringSize_0f7a4_35 rfl (by decide) rfl ?_
                                        refine z_iinc (v := 10) (lv' := [(3, .int 10), (2, .int (-1410065408)), (1, .int 1), (0, .int v)]) F dJ6_stringSize_0f7a4_36 1 rfl (by decide) (by decide) rfl ?_
                                        refine z_goto (tgt := 16) F dJ6_stringSize_0f7a4_39 (by decide) ?_
                                        refine z_iload_n F 0 dJ6_stringSize_0f7a4_16 rfl rfl ?_
                                        refine z_bipush (v := 10) F dJ6_stringSize_0f7a4_17 (by decide) ?_
                                        refine z_icmp_ge (tgt := 42) F dJ6_stringSize_0f7a4_19 (by decide) (fun c20 => ?_) (fun c20 => ?_)
                                        · refine z_bipush (v := 10) F dJ6_stringSize_0f7a4_42 (by decide) ?_
                                          refine z_iload_n F 2 dJ6_stringSize_0f7a4_44 rfl rfl ?_
                                          refine z_iadd F dJ6_stringSize_0f7a4_45 ?_
                                          exact z_iret F hA hQ hlk hr () (by rw [z_ss (s := 1) (d := 10) (if_pos c1) (Or.inr ((z_leN (k := 1000000000) (z_abT c1) (by decide)).mp c19)) (Or.inr rfl) (by decide)]; decide) (rfl) dJ6_stringSize_0f7a4_46
                                        · exact absurd (by decide) c20
                                      · refine z_iload_n F 0 dJ6_stringSize_0f7a4_27 rfl rfl ?_
                                        refine z_iload_n F 2 dJ6_stringSize_0f7a4_28 rfl rfl ?_
                                        refine z_iadd F dJ6_stringSize_0f7a4_29 ?_
                                        exact z_iret F hA hQ hlk hr () (by rw [z_ss (s := 1) (d := 9) (if_pos c1) (Or.inr ((z_leN (k := 100000000) (z_abT c1) (by decide)).mp c17)) (Or.inl (Nat.lt_of_not_le (fun q => c19 ((z_leN (k := 1000000000) (z_abT c1) (by decide)).mpr q)))) (by decide)]; decide) (rfl) dJ6_stringSize_0f7a4_30
                                  · refine z_iload_n F 0 dJ6_stringSize_0f7a4_27 rfl rfl ?_
                                    refine z_iload_n F 2 dJ6_stringSize_0f7a4_28 rfl rfl ?_
                                    refine z_iadd F dJ6_stringSize_0f7a4_29 ?_
                                    exact z_iret F hA hQ hlk hr () (by rw [z_ss (s := 1) (d := 8) (if_pos c1) (Or.inr ((z_leN (k := 10000000) (z_abT c1) (by decide)).mp c15)) (Or.inl (Nat.lt_of_not_le (fun q => c17 ((z_leN (k := 100000000) (z_abT c1) (by decide)).mpr q)))) (by decide)]; decide) (rfl) dJ6_stringSize_0f7a4_30
                              · refine z_iload_n F 0 dJ6_stringSize_0f7a4_27 rfl rfl ?_
                                refine z_iload_n F 2 dJ6_stringSize_0f7a4_28 rfl rfl ?_
                                refine z_iadd F dJ6_stringSize_0f7a4_29 ?_
                                exact z_iret F hA hQ hlk hr () (by rw [z_ss (s := 1) (d := 7) (if_pos c1) (Or.inr ((z_leN (k := 1000000) (z_abT c1) (by decide)).mp c13)) (Or.inl (Nat.lt_of_not_le (fun q => c15 ((z_leN (k := 10000000) (z_abT c1) (by decide)).mpr q)))) (by decide)]; decide) (rfl) dJ6_stringSize_0f7a4_30
                          · refine z_iload_n F 0 dJ6_stringSize_0f7a4_27 rfl rfl ?_
                            refine z_iload_n F 2 dJ6_stringSize_0f7a4_28 rfl rfl ?_
                            refine z_iadd F dJ6_stringSize_0f7a4_29 ?_
                            exact z_iret F hA hQ hlk hr () (by rw [z_ss (s := 1) (d := 6) (if_pos c1) (Or.inr ((z_leN (k := 100000) (z_abT c1) (by decide)).mp c11)) (Or.inl (Nat.lt_of_not_le (fun q => c13 ((z_leN (k := 1000000) (z_abT c1) (by decide)).mpr q)))) (by decide)]; decide) (rfl) dJ6_stringSize_0f7a4_30
                      · refine z_iload_n F 0 dJ6_stringSize_0f7a4_27 rfl rfl ?_
                        refine z_iload_n F 2 dJ6_stringSize_0f7a4_28 rfl rfl ?_
                        refine z_iadd F dJ6_stringSize_0f7a4_29 ?_
                        exact z_iret F hA hQ hlk hr () (by rw [z_ss (s := 1) (d := 5) (if_pos c1) (Or.inr ((z_leN (k := 10000) (z_abT c1) (by decide)).mp c9)) (Or.inl (Nat.lt_of_not_le (fun q => c11 ((z_leN (k := 100000) (z_abT c1) (by decide)).mpr q)))) (by decide)]; decide) (rfl) dJ6_stringSize_0f7a4_30
                  · refine z_iload_n F 0 dJ6_stringSize_0f7a4_27 rfl rfl ?_
                    refine z_iload_n F 2 dJ6_stringSize_0f7a4_28 rfl rfl ?_
                    refine z_iadd F dJ6_stringSize_0f7a4_29 ?_
                    exact z_iret F hA hQ hlk hr () (by rw [z_ss (s := 1) (d := 4) (if_pos c1) (Or.inr ((z_leN (k := 1000) (z_abT c1) (by decide)).mp c7)) (Or.inl (Nat.lt_of_not_le (fun q => c9 ((z_leN (k := 10000) (z_abT c1) (by decide)).mpr q)))) (by decide)]; decide) (rfl) dJ6_stringSize_0f7a4_30
              · refine z_iload_n F 0 dJ6_stringSize_0f7a4_27 rfl rfl ?_
                refine z_iload_n F 2 dJ6_stringSize_0f7a4_28 rfl rfl ?_
                refine z_iadd F dJ6_stringSize_0f7a4_29 ?_
                exact z_iret F hA hQ hlk hr () (by rw [z_ss (s := 1) (d := 3) (if_pos c1) (Or.inr ((z_leN (k := 100) (z_abT c1) (by decide)).mp c5)) (Or.inl (Nat.lt_of_not_le (fun q => c7 ((z_leN (k := 1000) (z_abT c1) (by decide)).mpr q)))) (by decide)]; decide) (rfl) dJ6_stringSize_0f7a4_30
          · refine z_iload_n F 0 dJ6_stringSize_0f7a4_27 rfl rfl ?_
            refine z_iload_n F 2 dJ6_stringSize_0f7a4_28 rfl rfl ?_
            refine z_iadd F dJ6_stringSize_0f7a4_29 ?_
            exact z_iret F hA hQ hlk hr () (by rw [z_ss (s := 1) (d := 2) (if_pos c1) (Or.inr ((z_leN (k := 10) (z_abT c1) (by decide)).mp c3)) (Or.inl (Nat.lt_of_not_le (fun q => c5 ((z_leN (k := 100) (z_abT c1) (by decide)).mpr q)))) (by decide)]; decide) (rfl) dJ6_stringSize_0f7a4_30
      · refine z_iload_n F 0 dJ6_stringSize_0f7a4_27 rfl rfl ?_
        refine z_iload_n F 2 dJ6_stringSize_0f7a4_28 rfl rfl ?_
        refine z_iadd F dJ6_stringSize_0f7a4_29 ?_
        exact z_iret F hA hQ hlk hr () (by rw [z_ss (s := 1) (d := 1) (if_pos c1) (Or.inl rfl) (Or.inl (Nat.lt_of_not_le (fun q => c3 ((z_leN (k := 10) (z_abT c1) (by decide)).mpr q)))) (by decide)]; decide) (rfl) dJ6_stringSize_0f7a4_30
  · refine z_iconst (v := 0) F dJ6_stringSize_0f7a4_6 (by decide) ?_
    refine z_istore_n (lv' := [(1, .int 0), (0, .int v)]) F dJ6_stringSize_0f7a4_7 rfl (by decide) rfl ?_
    refine z_iload_n F 1 dJ6_stringSize_0f7a4_8 rfl rfl ?_
    refine z_ineg F dJ6_stringSize_0f7a4_9 ?_
    refine z_istore_n (lv' := [(0, .int (-v)), (1, .int 0)]) F dJ6_stringSize_0f7a4_10 rfl (by decide) rfl ?_
    refine z_bipush (v := (-10)) F dJ6_stringSize_0f7a4_11 (by decide) ?_
    refine z_istore_n (lv' := [(2, .int (-10)), (0, .int (-v)), (1, .int 0)]) F dJ6_stringSize_0f7a4_13 rfl (by decide) rfl ?_
    refine z_iconst (v := 1) F dJ6_stringSize_0f7a4_14 (by decide) ?_
    refine z_istore_n (lv' := [(3, .int 1), (2, .int (-10)), (0, .int (-v)), (1, .int 0)]) F dJ6_stringSize_0f7a4_15 rfl (by decide) rfl ?_
    refine z_iload_n F 0 dJ6_stringSize_0f7a4_16 rfl rfl ?_
    refine z_bipush (v := 10) F dJ6_stringSize_0f7a4_17 (by decide) ?_
    refine z_icmp_ge (tgt := 42) F dJ6_stringSize_0f7a4_19 (by decide) (fun c21 => ?_) (fun c21 => ?_)
    · exact absurd c21 (by decide)
    · refine z_iload_n F 2 dJ6_stringSize_0f7a4_22 rfl rfl ?_
      refine z_iload_n F 1 dJ6_stringSize_0f7a4_23 rfl rfl ?_
      refine z_icmp_le (tgt := 31) F dJ6_stringSize_0f7a4_24 (by decide) (fun c22 => ?_) (fun c22 => ?_)
      · refine z_bipush (v := 10) F dJ6_stringSize_0f7a4_31 (by decide) ?_
        refine z_iload_n F 1 dJ6_stringSize_0f7a4_33 rfl rfl ?_
        refine z_imul F dJ6_stringSize_0f7a4_34 ?_
        refine z_top (y := -100) (by decide) ?_
        refine z_istore_n (lv' := [(2, .int (-100)), (3, .int 1), (0, .int (-v)), (1, .int 0)]) F dJ6_stringSize_0f7a4_35 rfl (by decide) rfl ?_
        refine z_iinc (v := 2) (lv' := [(3, .int 2), (2, .int (-100)), (0, .int (-v)), (1, .int 0)]) F dJ6_stringSize_0f7a4_36 1 rfl (by decide) (by decide) rfl ?_
        refine z_goto (tgt := 16) F dJ6_stringSize_0f7a4_39 (by decide) ?_
        refine z_iload_n F 0 dJ6_stringSize_0f7a4_16 rfl rfl ?_
        refine z_bipush (v := 10) F dJ6_stringSize_0f7a4_17 (by decide) ?_
        refine z_icmp_ge (tgt := 42) F dJ6_stringSize_0f7a4_19 (by decide) (fun c23 => ?_) (fun c23 => ?_)
        · exact absurd c23 (by decide)
        · refine z_iload_n F 2 dJ6_stringSize_0f7a4_22 rfl rfl ?_
          refine z_iload_n F 1 dJ6_stringSize_0f7a4_23 rfl rfl ?_
          refine z_icmp_le (tgt := 31) F dJ6_stringSize_0f7a4_24 (by decide) (fun c24 => ?_) (fun c24 => ?_)
          · refine z_bipush (v := 10) F dJ6_stringSize_0f7a4_31 (by decide) ?_
            refine z_iload_n F 1 dJ6_stringSize_0f7a4_33 rfl rfl ?_
            refine z_imul F dJ6_stringSize_0f7a4_34 ?_
            refine z_top (y := -1000) (by decide) ?_
            refine z_istore_n (lv' := [(2, .int (-1000)), (3, .int 2), (0, .int (-v)), (1, .int 0)]) F dJ6_stringSize_0f7a4_35 rfl (by decide) rfl ?_
            refine z_iinc (v := 3) (lv' := [(3, .int 3), (2, .int (-1000)), (0, .int (-v)), (1, .int 0)]) F dJ6_stringSize_0f7a4_36 1 rfl (by decide) (by decide) rfl ?_
            refine z_goto (tgt := 16) F dJ6_stringSize_0f7a4_39 (by decide) ?_
            refine z_iload_n F 0 dJ6_stringSize_0f7a4_16 rfl rfl ?_
            refine z_bipush (v := 10) F dJ6_stringSize_0f7a4_17 (by decide) ?_
            refine z_icmp_ge (tgt := 42) F dJ6_stringSize_0f7a4_19 (by decide) (fun c25 => ?_) (fun c25 => ?_)
            · exact absurd c25 (by decide)
            · refine z_iload_n F 2 dJ6_stringSize_0f7a4_22 rfl rfl ?_
              refine z_iload_n F 1 dJ6_stringSize_0f7a4_23 rfl rfl ?_
              refine z_icmp_le (tgt := 31) F dJ6_stringSize_0f7a4_24 (by decide) (fun c26 => ?_) (fun c26 => ?_)
              · refine z_bipush (v := 10) F dJ6_stringSize_0f7a4_31 (by decide) ?_
                refine z_iload_n F 1 dJ6_stringSize_0f7a4_33 rfl rfl ?_
                refine z_imul F dJ6_stringSize_0f7a4_34 ?_
                refine z_top (y := -10000) (by decide) ?_
                refine z_istore_n (lv' := [(2, .int (-10000)), (3, .int 3), (0, .int (-v)), (1, .int 0)]) F dJ6_stringSize_0f7a4_35 rfl (by decide) rfl ?_
                refine z_iinc (v := 4) (lv' := [(3, .int 4), (2, .int (-10000)), (0, .int (-v)), (1, .int 0)]) F dJ6_stringSize_0f7a4_36 1 rfl (by decide) (by decide) rfl ?_
                refine z_goto (tgt := 16) F dJ6_stringSize_0f7a4_39 (by decide) ?_
                refine z_iload_n F 0 dJ6_stringSize_0f7a4_16 rfl rfl ?_
                refine z_bipush (v := 10) F dJ6_stringSize_0f7a4_17 (by decide) ?_
                refine z_icmp_ge (tgt := 42) F dJ6_stringSize_0f7a4_19 (by decide) (fun c27 => ?_) (fun c27 => ?_)
                · exact absurd c27 (by decide)
                · refine z_iload_n F 2 dJ6_stringSize_0f7a4_22 rfl rfl ?_
                  refine z_iload_n F 1 dJ6_stringSize_0f7a4_23 rfl rfl ?_
                  refine z_icmp_le (tgt := 31) F dJ6_stringSize_0f7a4_24 (by decide) (fun c28 => ?_) (fun c28 => ?_)
                  · refine z_bipush (v := 10) F dJ6_stringSize_0f7a4_31 (by decide) ?_
                    refine z_iload_n F 1 dJ6_stringSize_0f7a4_33 rfl rfl ?_
                    refine z_imul F dJ6_stringSize_0f7a4_34 ?_
                    refine z_top (y := -100000) (by decide) ?_
                    refine z_istore_n (lv' := [(2, .int (-100000)), (3, .int 4), (0, .int (-v)), (1, .int 0)]) F dJ6_stringSize_0f7a4_35 rfl (by decide) rfl ?_
                    refine z_iinc (v := 5) (lv' := [(3, .int 5), (2, .int (-100000)), (0, .int (-v)), (1, .int 0)]) F dJ6_stringSize_0f7a4_36 1 rfl (by decide) (by decide) rfl ?_
                    refine z_goto (tgt := 16) F dJ6_stringSize_0f7a4_39 (by decide) ?_
                    refine z_iload_n F 0 dJ6_stringSize_0f7a4_16 rfl rfl ?_
                    refine z_bipush (v := 10) F dJ6_stringSize_0f7a4_17 (by decide) ?_
                    refine z_icmp_ge (tgt := 42) F dJ6_stringSize_0f7a4_19 (by decide) (fun c29 => ?_) (fun c29 => ?_)
                    · exact absurd c29 (by decide)
                    · refine z_iload_n F 2 dJ6_stringSize_0f7a4_22 rfl rfl ?_
                      refine z_iload_n F 1 dJ6_stringSize_0f7a4_23 rfl rfl ?_
                      refine z_icmp_le (tgt := 31) F dJ6_stringSize_0f7a4_24 (by decide) (fun c30 => ?_) (fun c30 => ?_)
                      · refine z_bipush (v := 10) F dJ6_stringSize_0f7a4_31 (by decide) ?_
                        refine z_iload_n F 1 dJ6_stringSize_0f7a4_33 rfl rfl ?_
                        refine z_imul F dJ6_stringSize_0f7a4_34 ?_
                        refine z_top (y := -1000000) (by decide) ?_
                        refine z_istore_n (lv' := [(2, .int (-1000000)), (3, .int 5), (0, .int (-v)), (1, .int 0)]) F dJ6_stringSize_0f7a4_35 rfl (by decide) rfl ?_
                        refine z_iinc (v := 6) (lv' := [(3, .int 6), (2, .int (-1000000)), (0, .int (-v)), (1, .int 0)]) F dJ6_stringSize_0f7a4_36 1 rfl (by decide) (by decide) rfl ?_
                        refine z_goto (tgt := 16) F dJ6_stringSize_0f7a4_39 (by decide) ?_
                        refine z_iload_n F 0 dJ6_stringSize_0f7a4_16 rfl rfl ?_
                        refine z_bipush (v := 10) F dJ6_stringSize_0f7a4_17 (by decide) ?_
                        refine z_icmp_ge (tgt := 42) F dJ6_stringSize_0f7a4_19 (by decide) (fun c31 => ?_) (fun c31 => ?_)
                        · exact absurd c31 (by decide)
                        · refine z_iload_n F 2 dJ6_stringSize_0f7a4_22 rfl rfl ?_
                          refine z_iload_n F 1 dJ6_stringSize_0f7a4_23 rfl rfl ?_
                          refine z_icmp_le (tgt := 31) F dJ6_stringSize_0f7a4_24 (by decide) (fun c32 => ?_) (fun c32 => ?_)
                          · refine z_bipush (v := 10) F dJ6_stringSize_0f7a4_31 (by decide) ?_
                            refine z_iload_n F 1 dJ6_stringSize_0f7a4_33 rfl rfl ?_
                            refine z_imul F dJ6_stringSize_0f7a4_34 ?_
                            refine z_top (y := -10000000) (by decide) ?_
                            refine z_istore_n (lv' := [(2, .int (-10000000)), (3, .int 6), (0, .int (-v)), (1, .int 0)]) F dJ6_stringSize_0f7a4_35 rfl (by decide) rfl ?_
                            refine z_iinc (v := 7) (lv' := [(3, .int 7), (2, .int (-10000000)), (0, .int (-v)), (1, .int 0)]) F dJ6_stringSize_0f7a4_36 1 rfl (by decide) (by decide) rfl ?_
                            refine z_goto (tgt := 16) F dJ6_stringSize_0f7a4_39 (by decide) ?_
                            refine z_iload_n F 0 dJ6_stringSize_0f7a4_16 rfl rfl ?_
                            refine z_bipush (v := 10) F dJ6_stringSize_0f7a4_17 (by decide) ?_
                            refine z_icmp_ge (tgt := 42) F dJ6_stringSize_0f7a4_19 (by decide) (fun c33 => ?_) (fun c33 => ?_)
                            · exact absurd c33 (by decide)
                            · refine z_iload_n F 2 dJ6_stringSize_0f7a4_22 rfl rfl ?_
                              refine z_iload_n F 1 dJ6_stringSize_0f7a4_23 rfl rfl ?_
                              refine z_icmp_le (tgt := 31) F dJ6_stringSize_0f7a4_24 (by decide) (fun c34 => ?_) (fun c34 => ?_)
                              · refine z_bipush (v := 10) F dJ6_stringSize_0f7a4_31 (by decide) ?_
                                refine z_iload_n F 1 dJ6_stringSize_0f7a4_33 rfl rfl ?_
                                refine z_imul F dJ6_stringSize_0f7a4_34 ?_
                                refine z_top (y := -100000000) (by decide) ?_
                                refine z_istore_n (lv' := [(2, .int (-100000000)), (3, .int 7), (0, .int (-v)), (1, .int 0)]) F dJ6_stringSize_0f7a4_35 rfl (by decide) rfl ?_
                                refine z_iinc (v := 8) (lv' := [(3, .int 8), (2, .int (-100000000)), (0, .int (-v)), (1, .int 0)]) F dJ6_stringSize_0f7a4_36 1 rfl (by decide) (by decide) rfl ?_
                                refine z_goto (tgt := 16) F dJ6_stringSize_0f7a4_39 (by decide) ?_
                                refine z_iload_n F 0 dJ6_stringSize_0f7a4_16 rfl rfl ?_
                                refine z_bipush (v := 10) F dJ6_stringSize_0f7a4_17 (by decide) ?_
                                refine z_icmp_ge (tgt := 42) F dJ6_stringSize_0f7a4_19 (by decide) (fun c35 => ?_) (fun c35 => ?_)
                                · exact absurd c35 (by decide)
                                · refine z_iload_n F 2 dJ6_stringSize_0f7a4_22 rfl rfl ?_
                                  refine z_iload_n F 1 dJ6_stringSize_0f7a4_23 rfl rfl ?_
                                  refine z_icmp_le (tgt := 31) F dJ6_stringSize_0f7a4_24 (by decide) (fun c36 => ?_) (fun c36 => ?_)
                                  · refine z_bipush (v := 10) F dJ6_stringSize_0f7a4_31 (by decide) ?_
                                    refine z_iload_n F 1 dJ6_stringSize_0f7a4_33 rfl rfl ?_
                                    refine z_imul F dJ6_stringSize_0f7a4_34 ?_
                                    refine z_top (y := -1000000000) (by decide) ?_
                                    refine z_istore_n (lv' := [(2, .int (-1000000000)), (3, .int 8), (0, .int (-v)), (1, .int 0)]) F dJ6_stringSize_0f7a4_35 rfl (by decide) rfl ?_
                                    refine z_iinc (v := 9) (lv' := [(3, .int 9), (2, .int (-1000000000)), (0, .int (-v)), (1, .int 0)]) F dJ6_stringSize_0f7a4_36 1 rfl (by decide) (by decide) rfl ?_
                                    refine z_goto (tgt := 16) F dJ6_stringSize_0f7a4_39 (by decide) ?_
                                    refine z_iload_n F 0 dJ6_stringSize_0f7a4_16 rfl rfl ?_
                                    refine z_bipush (v := 10) F dJ6_stringSize_0f7a4_17 (by decide) ?_
                                    refine z_icmp_ge (tgt := 42) F dJ6_stringSize_0f7a4_19 (by decide) (fun c37 => ?_) (fun c37 => ?_)
                                    · exact absurd c37 (by decide)
                                    · refine z_iload_n F 2 dJ6_stringSize_0f7a4_22 rfl rfl ?_
                                      refine z_iload_n F 1 dJ6_stringSize_0f7a4_23 rfl rfl ?_
                                      refine z_icmp_le (tgt := 31) F dJ6_stringSize_0f7a4_24 (by decide) (fun c38 => ?_) (fun c38 => ?_)
                                      · refine z_bipush (v := 10) F dJ6_stringSize_0f7a4_31 (by decide) ?_
                                        refine z_iload_n F 1 dJ6_stringSize_0f7a4_33 rfl rfl ?_
                                        refine z_imul F dJ6_stringSize_0f7a4_34 ?_
                                        refine z_top (y := -1410065408) (by decide) ?_
                                        refine z_istore_n (lv' := [(2, .int (-1410065408)), (3, .int 9), (0, .int (-v)), (1, .int 0)]) F dJ6_stringSize_0f7a4_35 rfl (by decide) rfl ?_
                                        refine z_iinc (v := 10) (lv' := [(3, .int 10), (2, .int (-1410065408)), (0, .int (-v)), (1, .int 0)]) F dJ6_stringSize_0f7a4_36 1 rfl (by decide) (by decide) rfl ?_
                                        refine z_goto (tgt := 16) F dJ6_stringSize_0f7a4_39 (by decide) ?_
                                        refine z_iload_n F 0 dJ6_stringSize_0f7a4_16 rfl rfl ?_
                                        refine z_bipush (v := 10) F dJ6_stringSize_0f7a4_17 (by decide) ?_
                                        refine z_icmp_ge (tgt := 42) F dJ6_stringSize_0f7a4_19 (by decide) (fun c39 => ?_) (fun c39 => ?_)
                                        · refine z_bipush (v := 10) F dJ6_stringSize_0f7a4_42 (by decide) ?_
                                          refine z_iload_n F 3 dJ6_stringSize_0f7a4_44 rfl rfl ?_
                                          refine z_iadd F dJ6_stringSize_0f7a4_45 ?_
                                          exact z_iret F hA hQ hlk hr () (by rw [z_ss (s := 0) (d := 10) (if_neg c1) (Or.inr ((z_leN (k := 1000000000) (z_abF c1) (by decide)).mp c38)) (Or.inr rfl) (by decide)]; decide) (rfl) dJ6_stringSize_0f7a4_46
                                        · exact absurd (by decide) c39
                                      · refine z_iload_n F 0 dJ6_stringSize_0f7a4_27 rfl rfl ?_
                                        refine z_iload_n F 3 dJ6_stringSize_0f7a4_28 rfl rfl ?_
                                        refine z_iadd F dJ6_stringSize_0f7a4_29 ?_
                                        exact z_iret F hA hQ hlk hr () (by rw [z_ss (s := 0) (d := 9) (if_neg c1) (Or.inr ((z_leN (k := 100000000) (z_abF c1) (by decide)).mp c36)) (Or.inl (Nat.lt_of_not_le (fun q => c38 ((z_leN (k := 1000000000) (z_abF c1) (by decide)).mpr q)))) (by decide)]; decide) (rfl) dJ6_stringSize_0f7a4_30
                                  · refine z_iload_n F 0 dJ6_stringSize_0f7a4_27 rfl rfl ?_
                                    refine z_iload_n F 3 dJ6_stringSize_0f7a4_28 rfl rfl ?_
                                    refine z_iadd F dJ6_stringSize_0f7a4_29 ?_
                                    exact z_iret F hA hQ hlk hr () (by rw [z_ss (s := 0) (d := 8) (if_neg c1) (Or.inr ((z_leN (k := 10000000) (z_abF c1) (by decide)).mp c34)) (Or.inl (Nat.lt_of_not_le (fun q => c36 ((z_leN (k := 100000000) (z_abF c1) (by decide)).mpr q)))) (by decide)]; decide) (rfl) dJ6_stringSize_0f7a4_30
                              · refine z_iload_n F 0 dJ6_stringSize_0f7a4_27 rfl rfl ?_
                                refine z_iload_n F 3 dJ6_stringSize_0f7a4_28 rfl rfl ?_
                                refine z_iadd F dJ6_stringSize_0f7a4_29 ?_
                                exact z_iret F hA hQ hlk hr () (by rw [z_ss (s := 0) (d := 7) (if_neg c1) (Or.inr ((z_leN (k := 1000000) (z_abF c1) (by decide)).mp c32)) (Or.inl (Nat.lt_of_not_le (fun q => c34 ((z_leN (k := 10000000) (z_abF c1) (by decide)).mpr q)))) (by decide)]; decide) (rfl) dJ6_stringSize_0f7a4_30
                          · refine z_iload_n F 0 dJ6_stringSize_0f7a4_27 rfl rfl ?_
                            refine z_iload_n F 3 dJ6_stringSize_0f7a4_28 rfl rfl ?_
                            refine z_iadd F dJ6_stringSize_0f7a4_29 ?_
                            exact z_iret F hA hQ hlk hr () (by rw [z_ss (s := 0) (d := 6) (if_neg c1) (Or.inr ((z_leN (k := 100000) (z_abF c1) (by decide)).mp c30)) (Or.inl (Nat.lt_of_not_le (fun q => c32 ((z_leN (k := 1000000) (z_abF c1) (by decide)).mpr q)))) (by decide)]; decide) (rfl) dJ6_stringSize_0f7a4_30
                      · refine z_iload_n F 0 dJ6_stringSize_0f7a4_27 rfl rfl ?_
                        refine z_iload_n F 3 dJ6_stringSize_0f7a4_28 rfl rfl ?_
                        refine z_iadd F dJ6_stringSize_0f7a4_29 ?_
                        exact z_iret F hA hQ hlk hr () (by rw [z_ss (s := 0) (d := 5) (if_neg c1) (Or.inr ((z_leN (k := 10000) (z_abF c1) (by decide)).mp c28)) (Or.inl (Nat.lt_of_not_le (fun q => c30 ((z_leN (k := 100000) (z_abF c1) (by decide)).mpr q)))) (by decide)]; decide) (rfl) dJ6_stringSize_0f7a4_30
                  · refine z_iload_n F 0 dJ6_stringSize_0f7a4_27 rfl rfl ?_
                    refine z_iload_n F 3 dJ6_stringSize_0f7a4_28 rfl rfl ?_
                    refine z_iadd F dJ6_stringSize_0f7a4_29 ?_
                    exact z_iret F hA hQ hlk hr () (by rw [z_ss (s := 0) (d := 4) (if_neg c1) (Or.inr ((z_leN (k := 1000) (z_abF c1) (by decide)).mp c26)) (Or.inl (Nat.lt_of_not_le (fun q => c28 ((z_leN (k := 10000) (z_abF c1) (by decide)).mpr q)))) (by decide)]; decide) (rfl) dJ6_stringSize_0f7a4_30
              · refine z_iload_n F 0 dJ6_stringSize_0f7a4_27 rfl rfl ?_
                refine z_iload_n F 3 dJ6_stringSize_0f7a4_28 rfl rfl ?_
                refine z_iadd F dJ6_stringSize_0f7a4_29 ?_
                exact z_iret F hA hQ hlk hr () (by rw [z_ss (s := 0) (d := 3) (if_neg c1) (Or.inr ((z_leN (k := 100) (z_abF c1) (by decide)).mp c24)) (Or.inl (Nat.lt_of_not_le (fun q => c26 ((z_leN (k := 1000) (z_abF c1) (by decide)).mpr q)))) (by decide)]; decide) (rfl) dJ6_stringSize_0f7a4_30
          · refine z_iload_n F 0 dJ6_stringSize_0f7a4_27 rfl rfl ?_
            refine z_iload_n F 3 dJ6_stringSize_0f7a4_28 rfl rfl ?_
            refine z_iadd F dJ6_stringSize_0f7a4_29 ?_
            exact z_iret F hA hQ hlk hr () (by rw [z_ss (s := 0) (d := 2) (if_neg c1) (Or.inr ((z_leN (k := 10) (z_abF c1) (by decide)).mp c22)) (Or.inl (Nat.lt_of_not_le (fun q => c24 ((z_leN (k := 100) (z_abF c1) (by decide)).mpr q)))) (by decide)]; decide) (rfl) dJ6_stringSize_0f7a4_30
      · refine z_iload_n F 0 dJ6_stringSize_0f7a4_27 rfl rfl ?_
        refine z_iload_n F 3 dJ6_stringSize_0f7a4_28 rfl rfl ?_
        refine z_iadd F dJ6_stringSize_0f7a4_29 ?_
        exact z_iret F hA hQ hlk hr () (by rw [z_ss (s := 0) (d := 1) (if_neg c1) (Or.inl rfl) (Or.inl (Nat.lt_of_not_le (fun q => c22 ((z_leN (k := 10) (z_abF c1) (by decide)).mpr q)))) (by decide)]; decide) (rfl) dJ6_stringSize_0f7a4_30
