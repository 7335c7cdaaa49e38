/-! THE JDK'S STRINGBUILDER (Latin-1) -/
def f_one : Nat → Int32 := fun k => 48 + nI (k % 10)
def f_ten : Nat → Int32 := fun k => 48 + nI (k / 10)
def zJ (D : va_G) (g : Nat → ClassId) (dg : Nat → Nat) : zE := fun A U H => va_Z "java/lang/String" "COMPACT_STRINGS" "Z" (.int 1) A U H ∧ va_Zq "jdk/internal/util/Preconditions" "SIOOBE_FORMATTER" "Ljava/util/function/BiFunction;" A U H ∧ va_Z "java/lang/Integer" "DigitOnes" "[B" (.ref (dg 0)) A U H ∧ va_Z "java/lang/Integer" "DigitTens" "[B" (.ref (dg 1)) A U H ∧ va_T .byte (dg 0) 100 (fun k => .int (f_one k)) A U H ∧ va_T .byte (dg 1) 100 (fun k => .int (f_ten k)) A U H
theorem zJ_ok (D : va_G) (g : Nat → ClassId) (dg : Nat → Nat) : zOK (zJ D g dg) := ⟨fun _ _ _ _ h k => ⟨k.1.moved h.alike, k.2.1.moved h.alike, k.2.2.1.moved h.alike, k.2.2.2.1.moved h.alike, va_T.moved h.alike k.2.2.2.2.1, va_T.moved h.alike k.2.2.2.2.2⟩,
  fun _ _ _ _ h k => ⟨k.1.kept h, k.2.1.kept h, k.2.2.1.kept h, k.2.2.2.1.kept h, va_T.kept k.2.2.2.2.1 h, va_T.kept k.2.2.2.2.2 h⟩,
  fun _ _ _ _ h k => ⟨k.1.narrow h, k.2.1.narrow h, k.2.2.1.narrow h, k.2.2.2.1.narrow h, va_T.narrow k.2.2.2.2.1 h, va_T.narrow k.2.2.2.2.2 h⟩⟩
theorem z_shr0 (x : Int32) : x >>> (0 &&& 31) = x := by
  have h := pk_shr x (0 &&& 31) 0 (by decide)
  exact Int32.toInt_inj.mp (by rw [h]; simp)
theorem z_shl0 (x : Int32) : x <<< (0 &&& 31) = x := by
  have h := pk_shl x (0 &&& 31) 0 (by decide)
  have h2 : (x <<< (0 &&& 31)).toBitVec = x.toBitVec := BitVec.eq_of_toNat_eq (by rw [h]; have := x.toBitVec.isLt; omega)
  exact Int32.toBitVec_inj.mp h2
theorem z_subLe {a b : Nat} (ha : a < 1073741824) (hb : b < 1073741824) (h : nI a - nI b ≤ 0) : a ≤ b := by
  rw [Int32.le_iff_toInt_le, pk_sub_toInt ha hb, Int32.toInt_zero] at h
  omega
theorem z_minL {a b : Nat} (h : a ≤ b) (hb : b < 2147483648) : z_min (nI a) (nI b) = nI a := by
  unfold z_min
  rw [if_neg]
  intro h2
  have := (nI_ltI hb (by omega)).mp h2
  omega
theorem z_maxN {a b : Nat} (ha : a < 2147483648) (hb : b < 2147483648) : z_max (nI a) (nI b) = nI (max a b) := by
  unfold z_max
  by_cases h : a < b
  · rw [if_pos (nI_lt h hb), Nat.max_eq_right (Nat.le_of_lt h)]
  · rw [if_neg (fun h2 => h ((nI_ltI ha hb).mp h2)), Nat.max_eq_left (by omega)]
def f_ch (x : Int32) : Int32 := ((x &&& 255).toUInt32 % 65536).toInt32
set_option maxHeartbeats 4000000 in
set_option maxRecDepth 100000 in
theorem c_J5_isLatin1_aae02 (l : Launch) (D : va_G) (g : Nat → ClassId) (dg : Nat → Nat) (b0 : Nat) (b1 : Nat) (ml : Int32) (bn : Nat) (sz : Nat) : Met l yJ5_isLatin1_aae02 wsJ5_isLatin1_aae02 { frames := 0, cells := 0, slots := 0, locals := 0 } (zPc D (gT g) (zJ D g dg) [.ref b0] [] [(b0, .inr (1, [.ref b1, .int 0, .int ml, .int (nI bn)]))] sz) (zQi D [] (fun (r : Int32) (_ : Unit) => r = 1) (fun _ => []) sz) 0 0 (va_A [] sz) := by
  refine z_met (y := yJ5_isLatin1_aae02) (cc := cJ5_isLatin1_aae02) (nL := 1) (rm := { frames := 0, cells := 0, slots := 0, locals := 0 }) (D := D) (tys := gT g) (wr := [(b0, .inr (1, [.ref b1, .int 0, .int ml, .int (nI bn)]))]) (P0 := zJ D g dg) (As := [.ref b0]) (ww := []) (Qc := zQi D [] (fun (r : Int32) (_ : Unit) => r = 1) (fun _ => [])) (ret := (some .boolean)) (by decide) rfl (Nat.le_of_ble_eq_true rfl) ?_ sz
  intro p e s m args below meth c A Q hA hQ F E hr hlk hin
  show zW p l e { frames := 0, cells := 0, slots := 0, locals := 0 } s m args below meth c 1 D A Q 0 0 [] [(0, .ref b0)] [] 0
  refine z_gets F E.1 (List.mem_cons_of_mem _ (List.mem_append_left _ (List.mem_of_getElem? (i := 0) rfl))) dJ5_isLatin1_aae02_0 ?_
  refine z_if_eq (tgt := 17) F dJ5_isLatin1_aae02_3 (by decide) (fun c1 => ?_) (fun c1 => ?_)
  · exact absurd c1 (by decide)
  · refine z_aload_n F 0 dJ5_isLatin1_aae02_6 rfl rfl ?_
    refine z_get (C := RJ4) (T := TJ4) (N := 4) F (fun w h => List.mem_cons_of_mem _ (List.mem_append_right _ (h))) 0 rfl rfl 1 (by decide) (List.mem_cons_of_mem _ (List.mem_append_left _ (List.mem_of_getElem? (i := 1) rfl))) rfl rfl dJ5_isLatin1_aae02_7 ?_
    refine z_if_ne (tgt := 17) F dJ5_isLatin1_aae02_10 (by decide) (fun c2 => ?_) (fun c2 => ?_)
    · exact absurd (by decide) c2
    · refine z_iconst (v := 1) F dJ5_isLatin1_aae02_13 (by decide) ?_
      refine z_goto (tgt := 18) F dJ5_isLatin1_aae02_14 (by decide) ?_
      exact z_zret F hA hQ hlk hr (rfl) () (rfl) (rfl) dJ5_isLatin1_aae02_18
set_option maxHeartbeats 4000000 in
set_option maxRecDepth 100000 in
theorem c_J5_length_8abf5 (l : Launch) (D : va_G) (g : Nat → ClassId) (b0 : Nat) (b1 : Nat) (ml : Int32) (bn : Nat) (sz : Nat) : Met l yJ5_length_8abf5 wsJ5_length_8abf5 { frames := 0, cells := 0, slots := 0, locals := 0 } (zPc D (gT g) zNo [.ref b0] [] [(b0, .inr (1, [.ref b1, .int 0, .int ml, .int (nI bn)]))] sz) (zQi D [] (fun (r : Int32) (_ : Unit) => r = nI bn) (fun _ => []) sz) 0 0 (va_A [] sz) := by
  refine z_met (y := yJ5_length_8abf5) (cc := cJ5_length_8abf5) (nL := 1) (rm := { frames := 0, cells := 0, slots := 0, locals := 0 }) (D := D) (tys := gT g) (wr := [(b0, .inr (1, [.ref b1, .int 0, .int ml, .int (nI bn)]))]) (P0 := zNo) (As := [.ref b0]) (ww := []) (Qc := zQi D [] (fun (r : Int32) (_ : Unit) => r = nI bn) (fun _ => [])) (ret := (some .int)) (by decide) rfl (Nat.le_of_ble_eq_true rfl) ?_ sz
  intro p e s m args below meth c A Q hA hQ F E hr hlk hin
  show zW p l e { frames := 0, cells := 0, slots := 0, locals := 0 } s m args below meth c 1 D A Q 0 0 [] [(0, .ref b0)] [] 0
  refine z_aload_n F 0 dJ5_length_8abf5_0 rfl rfl ?_
  refine z_get (C := RJ4) (T := TJ4) (N := 4) F (fun w h => List.mem_cons_of_mem _ (List.mem_append_right _ (h))) 0 rfl rfl 3 (by decide) (List.mem_cons_of_mem _ (List.mem_append_left _ (List.mem_of_getElem? (i := 0) rfl))) rfl rfl dJ5_length_8abf5_1 ?_
  exact z_iret F hA hQ hlk hr () (rfl) (rfl) dJ5_length_8abf5_4
set_option maxHeartbeats 4000000 in
set_option maxRecDepth 100000 in
theorem c_J4_length_8abf5 (l : Launch) (D : va_G) (g : Nat → ClassId) (b0 : Nat) (b1 : Nat) (ml : Int32) (bn : Nat) (sz : Nat) : Met l yJ4_length_8abf5 wsJ4_length_8abf5 { frames := 1, cells := 0, slots := 0, locals := 20 } (zPc D (gT g) zNo [.ref b0] [] [(b0, .inr (1, [.ref b1, .int 0, .int ml, .int (nI bn)]))] sz) (zQi D [] (fun (r : Int32) (_ : Unit) => r = nI bn) (fun _ => []) sz) 0 0 (va_A [] sz) := by
  refine z_met (y := yJ4_length_8abf5) (cc := cJ4_length_8abf5) (nL := 1) (rm := { frames := 1, cells := 0, slots := 0, locals := 20 }) (D := D) (tys := gT g) (wr := [(b0, .inr (1, [.ref b1, .int 0, .int ml, .int (nI bn)]))]) (P0 := zNo) (As := [.ref b0]) (ww := []) (Qc := zQi D [] (fun (r : Int32) (_ : Unit) => r = nI bn) (fun _ => [])) (ret := (some .int)) (by decide) rfl (Nat.le_of_ble_eq_true rfl) ?_ sz
  intro p e s m args below meth c A Q hA hQ F E hr hlk hin
  show zW p l e { frames := 1, cells := 0, slots := 0, locals := 20 } s m args below meth c 1 D A Q 0 0 [] [(0, .ref b0)] [] 0
  refine z_aload_n F 0 dJ4_length_8abf5_0 rfl rfl ?_
  refine z_calli0 F (z_runSU (st := []) F zNo_ok trivial (fun sz => c_J5_length_8abf5 l D g b0 b1 ml bn sz) (va_cwSU 0 F.1.2.2.2.2 gJ4_length_8abf5_J5_length_8abf5_s343 rfl rfl rfl (by decide +kernel) ⟨Nat.le_of_ble_eq_true rfl, Nat.le_of_ble_eq_true rfl⟩) 0 rfl rfl rfl [] [0] rfl rfl (by decide) rfl rfl (Nat.le_of_ble_eq_true rfl) dJ4_length_8abf5_1 ⟨Nat.le_of_ble_eq_true rfl, Nat.le_of_ble_eq_true rfl⟩) (fun r2 _ hw1 => ?_)
  subst hw1
  exact z_iret F hA hQ hlk hr () (rfl) (rfl) dJ4_length_8abf5_4
set_option maxHeartbeats 4000000 in
set_option maxRecDepth 100000 in
theorem c_J3_checkIndex_n (l : Launch) (D : va_G) (g : Nat → ClassId) (x : Nat) (n : Nat) (hi : x < n) (hn3 : n < 1000) (sz : Nat) : Met l yJ3_checkIndex_8e157 wsJ3_checkIndex_8e157 { frames := 0, cells := 0, slots := 0, locals := 0 } (zPc D (gT g) zNo [.int (nI x), .int (nI n), .null] [] [] sz) (zQi D [] (fun (r : Int32) (_ : Unit) => r = nI x) (fun _ => []) sz) 0 0 (va_A [] sz) := by
  refine z_met (y := yJ3_checkIndex_8e157) (cc := cJ3_checkIndex_8e157) (nL := 3) (rm := { frames := 0, cells := 0, slots := 0, locals := 0 }) (D := D) (tys := gT g) (wr := []) (P0 := zNo) (As := [.int (nI x), .int (nI n), .null]) (ww := []) (Qc := zQi D [] (fun (r : Int32) (_ : Unit) => r = nI x) (fun _ => [])) (ret := (some .int)) (by decide) rfl (Nat.le_of_ble_eq_true rfl) ?_ sz
  intro p e s m args below meth c A Q hA hQ F E hr hlk hin
  show zW p l e { frames := 0, cells := 0, slots := 0, locals := 0 } s m args below meth c 3 D A Q 0 0 [] [(0, .int (nI x)), (1, .int (nI n)), (2, .null)] [] 0
  refine z_iload_n F 0 dJ3_checkIndex_8e157_0 rfl rfl ?_
  refine z_if_lt (tgt := 9) F dJ3_checkIndex_8e157_1 (by decide) (fun c1 => ?_) (fun c1 => ?_)
  · exact absurd c1 (nI_pos (by omega))
  · refine z_iload_n F 0 dJ3_checkIndex_8e157_4 rfl rfl ?_
    refine z_iload_n F 1 dJ3_checkIndex_8e157_5 rfl rfl ?_
    refine z_icmp_lt (tgt := 16) F dJ3_checkIndex_8e157_6 (by decide) (fun c2 => ?_) (fun c2 => ?_)
    · refine z_iload_n F 0 dJ3_checkIndex_8e157_16 rfl rfl ?_
      exact z_iret F hA hQ hlk hr () (rfl) (rfl) dJ3_checkIndex_8e157_17
    · exact absurd (nI_lt hi (by omega)) c2
set_option maxHeartbeats 4000000 in
set_option maxRecDepth 100000 in
theorem c_J3_checkIndex_r (l : Launch) (D : va_G) (g : Nat → ClassId) (x : Nat) (n : Nat) (t : Nat) (hi : x < n) (hn3 : n < 1000) (sz : Nat) : Met l yJ3_checkIndex_8e157 wsJ3_checkIndex_8e157 { frames := 0, cells := 0, slots := 0, locals := 0 } (zPc D (gT g) zNo [.int (nI x), .int (nI n), .ref t] [] [] sz) (zQi D [] (fun (r : Int32) (_ : Unit) => r = nI x) (fun _ => []) sz) 0 0 (va_A [] sz) := by
  refine z_met (y := yJ3_checkIndex_8e157) (cc := cJ3_checkIndex_8e157) (nL := 3) (rm := { frames := 0, cells := 0, slots := 0, locals := 0 }) (D := D) (tys := gT g) (wr := []) (P0 := zNo) (As := [.int (nI x), .int (nI n), .ref t]) (ww := []) (Qc := zQi D [] (fun (r : Int32) (_ : Unit) => r = nI x) (fun _ => [])) (ret := (some .int)) (by decide) rfl (Nat.le_of_ble_eq_true rfl) ?_ sz
  intro p e s m args below meth c A Q hA hQ F E hr hlk hin
  show zW p l e { frames := 0, cells := 0, slots := 0, locals := 0 } s m args below meth c 3 D A Q 0 0 [] [(0, .int (nI x)), (1, .int (nI n)), (2, .ref t)] [] 0
  refine z_iload_n F 0 dJ3_checkIndex_8e157_0 rfl rfl ?_
  refine z_if_lt (tgt := 9) F dJ3_checkIndex_8e157_1 (by decide) (fun c1 => ?_) (fun c1 => ?_)
  · exact absurd c1 (nI_pos (by omega))
  · refine z_iload_n F 0 dJ3_checkIndex_8e157_4 rfl rfl ?_
    refine z_iload_n F 1 dJ3_checkIndex_8e157_5 rfl rfl ?_
    refine z_icmp_lt (tgt := 16) F dJ3_checkIndex_8e157_6 (by decide) (fun c2 => ?_) (fun c2 => ?_)
    · refine z_iload_n F 0 dJ3_checkIndex_8e157_16 rfl rfl ?_
      exact z_iret F hA hQ hlk hr () (rfl) (rfl) dJ3_checkIndex_8e157_17
    · exact absurd (nI_lt hi (by omega)) c2
set_option maxHeartbeats 4000000 in
set_option maxRecDepth 100000 in
theorem c_J0_checkIndex_df160 (l : Launch) (D : va_G) (g : Nat → ClassId) (dg : Nat → Nat) (x : Nat) (n : Nat) (hi : x < n) (hn3 : n < 1000) (sz : Nat) : Met l yJ0_checkIndex_df160 wsJ0_checkIndex_df160 { frames := 1, cells := 0, slots := 0, locals := 22 } (zPc D (gT g) (zJ D g dg) [.int (nI x), .int (nI n)] [] [] sz) (zQv D [] (fun (_ : Unit) => True) (fun _ => []) sz) 0 0 (va_A [] sz) := by
  refine z_met (y := yJ0_checkIndex_df160) (cc := cJ0_checkIndex_df160) (nL := 2) (rm := { frames := 1, cells := 0, slots := 0, locals := 22 }) (D := D) (tys := gT g) (wr := []) (P0 := zJ D g dg) (As := [.int (nI x), .int (nI n)]) (ww := []) (Qc := zQv D [] (fun (_ : Unit) => True) (fun _ => [])) (ret := none) (by decide) rfl (Nat.le_of_ble_eq_true rfl) ?_ sz
  intro p e s m args below meth c A Q hA hQ F E hr hlk hin
  show zW p l e { frames := 1, cells := 0, slots := 0, locals := 22 } s m args below meth c 2 D A Q 0 0 [] [(0, .int (nI x)), (1, .int (nI n))] [] 0
  refine z_iload_n F 0 dJ0_checkIndex_df160_0 rfl rfl ?_
  refine z_iload_n F 1 dJ0_checkIndex_df160_1 rfl rfl ?_
  rcases E.2.1 with h9 | ⟨t9, h9⟩
  · refine z_gets F h9 (List.mem_cons_of_mem _ (List.mem_of_getElem? (i := 0) rfl)) dJ0_checkIndex_df160_2 ?_
    refine z_calli0 F (z_runS (st := []) F zNo_ok trivial (fun sz => c_J3_checkIndex_n l D g x n (by omega) (by omega) sz) (va_cwS 3 F.1.2.2.2.2 gJ0_checkIndex_df160_J3_checkIndex_8e157 rfl rfl rfl (by decide +kernel) ⟨Nat.le_of_ble_eq_true rfl, Nat.le_of_ble_eq_true rfl⟩) [] [] rfl rfl (by decide) rfl rfl (Nat.le_of_ble_eq_true rfl) dJ0_checkIndex_df160_5 ⟨Nat.le_of_ble_eq_true rfl, Nat.le_of_ble_eq_true rfl⟩) (fun r2 _ hw1 => ?_)
    subst hw1
    refine z_pop F dJ0_checkIndex_df160_8 rfl ?_
    exact z_vret F hA hQ hlk hr () (trivial) (rfl) dJ0_checkIndex_df160_9
  · refine z_gets F h9 (List.mem_cons_of_mem _ (List.mem_of_getElem? (i := 0) rfl)) dJ0_checkIndex_df160_2 ?_
    refine z_calli0 F (z_runS (st := []) F zNo_ok trivial (fun sz => c_J3_checkIndex_r l D g x n t9 (by omega) (by omega) sz) (va_cwS 3 F.1.2.2.2.2 gJ0_checkIndex_df160_J3_checkIndex_8e157 rfl rfl rfl (by decide +kernel) ⟨Nat.le_of_ble_eq_true rfl, Nat.le_of_ble_eq_true rfl⟩) [] [] rfl rfl (by decide) rfl rfl (Nat.le_of_ble_eq_true rfl) dJ0_checkIndex_df160_5 ⟨Nat.le_of_ble_eq_true rfl, Nat.le_of_ble_eq_true rfl⟩) (fun r4 _ hw3 => ?_)
    subst hw3
    refine z_pop F dJ0_checkIndex_df160_8 rfl ?_
    exact z_vret F hA hQ hlk hr () (trivial) (rfl) dJ0_checkIndex_df160_9
set_option maxHeartbeats 4000000 in
set_option maxRecDepth 100000 in
theorem c_J5_charAt_5068e (l : Launch) (D : va_G) (g : Nat → ClassId) (dg : Nat → Nat) (b0 : Nat) (b1 : Nat) (ml : Int32) (bn : Nat) (bc : Nat) (bp : Nat → Int8) (x : Nat) (hbc : bn ≤ bc) (hb3 : bc ≤ 300) (hx : x < bn) (sz : Nat) : Met l yJ5_charAt_5068e wsJ5_charAt_5068e { frames := 2, cells := 0, slots := 0, locals := 43 } (zPc D (gT g) (zJ D g dg) [.ref b0, .int (nI x)] [] [(b0, .inr (1, [.ref b1, .int 0, .int ml, .int (nI bn)])), (b1, .inl (g 3, bc, .inl ((zBy bp))))] sz) (zQi D [] (fun (r : Int32) (_ : Unit) => r = f_ch (zBy bp x)) (fun _ => []) sz) 0 0 (va_A [] sz) := by
  refine z_met (y := yJ5_charAt_5068e) (cc := cJ5_charAt_5068e) (nL := 5) (rm := { frames := 2, cells := 0, slots := 0, locals := 43 }) (D := D) (tys := gT g) (wr := [(b0, .inr (1, [.ref b1, .int 0, .int ml, .int (nI bn)])), (b1, .inl (g 3, bc, .inl ((zBy bp))))]) (P0 := zJ D g dg) (As := [.ref b0, .int (nI x)]) (ww := []) (Qc := zQi D [] (fun (r : Int32) (_ : Unit) => r = f_ch (zBy bp x)) (fun _ => [])) (ret := (some .char)) (by decide) rfl (Nat.le_of_ble_eq_true rfl) ?_ sz
  intro p e s m args below meth c A Q hA hQ F E hr hlk hin
  show zW p l e { frames := 2, cells := 0, slots := 0, locals := 43 } s m args below meth c 5 D A Q 0 0 [] [(0, .ref b0), (1, .int (nI x))] [] 0
  refine z_aload_n F 0 dJ5_charAt_5068e_0 rfl rfl ?_
  refine z_get (C := RJ4) (T := TJ4) (N := 4) F (fun w h => List.mem_cons_of_mem _ (List.mem_append_right _ (h))) 0 rfl rfl 1 (by decide) (List.mem_cons_of_mem _ (List.mem_append_left _ (List.mem_append_left _ (List.mem_of_getElem? (i := 0) rfl)))) rfl rfl dJ5_charAt_5068e_1 ?_
  refine z_istore_n (lv' := [(2, .int 0), (0, .ref b0), (1, .int (nI x))]) F dJ5_charAt_5068e_4 rfl (by decide) rfl ?_
  refine z_aload_n F 1 dJ5_charAt_5068e_5 rfl rfl ?_
  refine z_get (C := RJ4) (T := TJ4) (N := 4) F (fun w h => List.mem_cons_of_mem _ (List.mem_append_right _ (h))) 0 rfl rfl 0 (by decide) (List.mem_cons_of_mem _ (List.mem_append_left _ (List.mem_append_left _ (List.mem_of_getElem? (i := 1) rfl)))) rfl rfl dJ5_charAt_5068e_6 ?_
  refine z_astore_n (lv' := [(3, .ref b1), (2, .int 0), (0, .ref b0), (1, .int (nI x))]) F dJ5_charAt_5068e_9 rfl (by decide) rfl ?_
  refine z_aload_n F 2 dJ5_charAt_5068e_10 rfl rfl ?_
  refine z_get (C := RJ4) (T := TJ4) (N := 4) F (fun w h => List.mem_cons_of_mem _ (List.mem_append_right _ (h))) 0 rfl rfl 3 (by decide) (List.mem_cons_of_mem _ (List.mem_append_left _ (List.mem_append_left _ (List.mem_of_getElem? (i := 2) rfl)))) rfl rfl dJ5_charAt_5068e_11 ?_
  refine z_aload_n F 0 dJ5_charAt_5068e_14 rfl rfl ?_
  refine z_alen (v := nI bc) F 1 3 rfl rfl rfl dJ5_charAt_5068e_15 ?_
  refine z_iload_n F 1 dJ5_charAt_5068e_16 rfl rfl ?_
  refine z_ishr F dJ5_charAt_5068e_17 ?_
  refine z_top (y := nI bc) (z_shr0 _) ?_
  refine z_mmin F (List.mem_cons_of_mem _ (List.mem_append_left _ (List.mem_append_left _ (List.mem_of_getElem? (i := 3) rfl)))) (List.mem_cons_of_mem _ (List.mem_append_left _ (List.mem_append_left _ (List.mem_of_getElem? (i := 4) rfl)))) (List.mem_cons_of_mem _ (List.mem_append_left _ (List.mem_append_left _ (List.mem_of_getElem? (i := 5) rfl)))) (List.mem_cons_of_mem _ (List.mem_append_left _ (List.mem_append_left _ (List.mem_of_getElem? (i := 6) rfl)))) (Nat.le_of_ble_eq_true rfl) (Nat.le_of_ble_eq_true rfl) (Nat.le_of_ble_eq_true rfl) (Nat.le_of_ble_eq_true rfl) dJ5_charAt_5068e_18 ?_
  refine z_top (y := nI bn) (z_minL hbc (by omega)) ?_
  refine z_istore (lv' := [(4, .int (nI bn)), (3, .ref b1), (2, .int 0), (0, .ref b0), (1, .int (nI x))]) F dJ5_charAt_5068e_21 (by decide) rfl ?_
  refine z_iload_n F 4 dJ5_charAt_5068e_23 rfl rfl ?_
  refine z_iload F 0 dJ5_charAt_5068e_24 rfl ?_
  refine z_callv0 F (z_runS (st := []) F ((zJ_ok D g dg)) E (fun sz => c_J0_checkIndex_df160 l D g dg x bn (hx) (by omega) sz) (va_cwS 2 F.1.2.2.2.2 gJ5_charAt_5068e_J0_checkIndex_df160 rfl rfl rfl (by decide +kernel) ⟨Nat.le_of_ble_eq_true rfl, Nat.le_of_ble_eq_true rfl⟩) [] [] rfl rfl (by decide) rfl rfl (Nat.le_of_ble_eq_true rfl) dJ5_charAt_5068e_26 ⟨Nat.le_of_ble_eq_true rfl, Nat.le_of_ble_eq_true rfl⟩) (fun _ hw1 => ?_)
  clear hw1
  refine z_iload_n F 2 dJ5_charAt_5068e_29 rfl rfl ?_
  refine z_if_ne (tgt := 42) F dJ5_charAt_5068e_30 (by decide) (fun c2 => ?_) (fun c2 => ?_)
  · exact absurd (by decide) c2
  · refine z_aload_n F 1 dJ5_charAt_5068e_33 rfl rfl ?_
    refine z_iload_n F 4 dJ5_charAt_5068e_34 rfl rfl ?_
    refine z_baldN (j := x) F 1 3 rfl rfl (by omega) (by omega) dJ5_charAt_5068e_35 ?_
    refine z_sipush (v := 255) F dJ5_charAt_5068e_36 (by decide) ?_
    refine z_iand F dJ5_charAt_5068e_39 ?_
    refine z_i2c F dJ5_charAt_5068e_40 rfl ?_
    exact z_zret F hA hQ hlk hr (pk_nc _) () (rfl) (rfl) dJ5_charAt_5068e_41
set_option maxHeartbeats 4000000 in
set_option maxRecDepth 100000 in
theorem c_J4_charAt_5068e (l : Launch) (D : va_G) (g : Nat → ClassId) (dg : Nat → Nat) (b0 : Nat) (b1 : Nat) (ml : Int32) (bn : Nat) (bc : Nat) (bp : Nat → Int8) (x : Nat) (hbc : bn ≤ bc) (hb3 : bc ≤ 300) (hx : x < bn) (sz : Nat) : Met l yJ4_charAt_5068e wsJ4_charAt_5068e { frames := 3, cells := 0, slots := 0, locals := 67 } (zPc D (gT g) (zJ D g dg) [.ref b0, .int (nI x)] [] [(b0, .inr (1, [.ref b1, .int 0, .int ml, .int (nI bn)])), (b1, .inl (g 3, bc, .inl ((zBy bp))))] sz) (zQi D [] (fun (r : Int32) (_ : Unit) => r = f_ch (zBy bp x)) (fun _ => []) sz) 0 0 (va_A [] sz) := by
  refine z_met (y := yJ4_charAt_5068e) (cc := cJ4_charAt_5068e) (nL := 2) (rm := { frames := 3, cells := 0, slots := 0, locals := 67 }) (D := D) (tys := gT g) (wr := [(b0, .inr (1, [.ref b1, .int 0, .int ml, .int (nI bn)])), (b1, .inl (g 3, bc, .inl ((zBy bp))))]) (P0 := zJ D g dg) (As := [.ref b0, .int (nI x)]) (ww := []) (Qc := zQi D [] (fun (r : Int32) (_ : Unit) => r = f_ch (zBy bp x)) (fun _ => [])) (ret := (some .char)) (by decide) rfl (Nat.le_of_ble_eq_true rfl) ?_ sz
  intro p e s m args below meth c A Q hA hQ F E hr hlk hin
  show zW p l e { frames := 3, cells := 0, slots := 0, locals := 67 } s m args below meth c 2 D A Q 0 0 [] [(0, .ref b0), (1, .int (nI x))] [] 0
  refine z_aload_n F 0 dJ4_charAt_5068e_0 rfl rfl ?_
  refine z_iload_n F 1 dJ4_charAt_5068e_1 rfl rfl ?_
  refine z_calli0 F (z_runSU (st := []) F ((zJ_ok D g dg)) E (fun sz => c_J5_charAt_5068e l D g dg b0 b1 ml bn bc bp x (hbc) (hb3) (hx) sz) (va_cwSU 1 F.1.2.2.2.2 gJ4_charAt_5068e_J5_charAt_5068e_s329 rfl rfl rfl (by decide +kernel) ⟨Nat.le_of_ble_eq_true rfl, Nat.le_of_ble_eq_true rfl⟩) 0 rfl rfl rfl [] [0, 1] rfl rfl (by decide) rfl rfl (Nat.le_of_ble_eq_true rfl) dJ4_charAt_5068e_2 ⟨Nat.le_of_ble_eq_true rfl, Nat.le_of_ble_eq_true rfl⟩) (fun r2 _ hw1 => ?_)
  subst hw1
  exact z_zret F hA hQ hlk hr (pk_nc _) () (rfl) (rfl) dJ4_charAt_5068e_5
set_option maxHeartbeats 4000000 in
set_option maxRecDepth 100000 in
theorem c_J1_canEncode_fc78d (l : Launch) (D : va_G) (g : Nat → ClassId) (v : Int32) (hv : ¬ 255 < v) (sz : Nat) : Met l yJ1_canEncode_fc78d wsJ1_canEncode_fc78d { frames := 0, cells := 0, slots := 0, locals := 0 } (zPc D (gT g) zNo [.int v] [] [] sz) (zQi D [] (fun (r : Int32) (_ : Unit) => r = 1) (fun _ => []) sz) 0 0 (va_A [] sz) := by
  refine z_met (y := yJ1_canEncode_fc78d) (cc := cJ1_canEncode_fc78d) (nL := 1) (rm := { frames := 0, cells := 0, slots := 0, locals := 0 }) (D := D) (tys := gT g) (wr := []) (P0 := zNo) (As := [.int v]) (ww := []) (Qc := zQi D [] (fun (r : Int32) (_ : Unit) => r = 1) (fun _ => [])) (ret := (some .boolean)) (by decide) rfl (Nat.le_of_ble_eq_true rfl) ?_ sz
  intro p e s m args below meth c A Q hA hQ F E hr hlk hin
  show zW p l e { frames := 0, cells := 0, slots := 0, locals := 0 } s m args below meth c 1 D A Q 0 0 [] [(0, .int v)] [] 0
  refine z_iload_n F 0 dJ1_canEncode_fc78d_0 rfl rfl ?_
  refine z_sipush (v := 255) F dJ1_canEncode_fc78d_1 (by decide) ?_
  refine z_icmp_gt (tgt := 11) F dJ1_canEncode_fc78d_4 (by decide) (fun c1 => ?_) (fun c1 => ?_)
  · exact absurd c1 hv
  · refine z_iconst (v := 1) F dJ1_canEncode_fc78d_7 (by decide) ?_
    refine z_goto (tgt := 12) F dJ1_canEncode_fc78d_8 (by decide) ?_
    exact z_zret F hA hQ hlk hr (rfl) () (rfl) (rfl) dJ1_canEncode_fc78d_12
set_option maxHeartbeats 4000000 in
set_option maxRecDepth 100000 in
theorem c_J8_newLength_cabcc (l : Launch) (D : va_G) (g : Nat → ClassId) (x : Nat) (y : Nat) (z : Nat) (hx : x ≤ 1000) (hy : y ≤ 1000) (hz : z ≤ 1000) (hz1 : 1 ≤ z) (sz : Nat) : Met l yJ8_newLength_cabcc wsJ8_newLength_cabcc { frames := 1, cells := 0, slots := 0, locals := 14 } (zPc D (gT g) zNo [.int (nI x), .int (nI y), .int (nI z)] [] [] sz) (zQi D [] (fun (r : Int32) (_ : Unit) => r = nI (x + max y z)) (fun _ => []) sz) 0 0 (va_A [] sz) := by
  refine z_met (y := yJ8_newLength_cabcc) (cc := cJ8_newLength_cabcc) (nL := 4) (rm := { frames := 1, cells := 0, slots := 0, locals := 14 }) (D := D) (tys := gT g) (wr := []) (P0 := zNo) (As := [.int (nI x), .int (nI y), .int (nI z)]) (ww := []) (Qc := zQi D [] (fun (r : Int32) (_ : Unit) => r = nI (x + max y z)) (fun _ => [])) (ret := (some .int)) (by decide) rfl (Nat.le_of_ble_eq_true rfl) ?_ sz
  intro p e s m args below meth c A Q hA hQ F E hr hlk hin
  show zW p l e { frames := 1, cells := 0, slots := 0, locals := 14 } s m args below meth c 4 D A Q 0 0 [] [(0, .int (nI x)), (1, .int (nI y)), (2, .int (nI z))] [] 0
  refine z_iload_n F 0 dJ8_newLength_cabcc_0 rfl rfl ?_
  refine z_iload_n F 1 dJ8_newLength_cabcc_1 rfl rfl ?_
  refine z_iload_n F 2 dJ8_newLength_cabcc_2 rfl rfl ?_
  refine z_mmax F (List.mem_cons_of_mem _ (List.mem_of_getElem? (i := 0) rfl)) (List.mem_cons_of_mem _ (List.mem_of_getElem? (i := 1) rfl)) (List.mem_cons_of_mem _ (List.mem_of_getElem? (i := 2) rfl)) (List.mem_cons_of_mem _ (List.mem_of_getElem? (i := 3) rfl)) (Nat.le_of_ble_eq_true rfl) (Nat.le_of_ble_eq_true rfl) (Nat.le_of_ble_eq_true rfl) (Nat.le_of_ble_eq_true rfl) dJ8_newLength_cabcc_3 ?_
  refine z_top (y := nI (max y z)) (z_maxN (by omega) (by omega)) ?_
  refine z_iadd F dJ8_newLength_cabcc_6 ?_
  refine z_top (y := nI (x + max y z)) (nI_add _ _) ?_
  refine z_istore_n (lv' := [(3, .int (nI (x + max y z))), (0, .int (nI x)), (1, .int (nI y)), (2, .int (nI z))]) F dJ8_newLength_cabcc_7 rfl (by decide) rfl ?_
  refine z_iconst (v := 0) F dJ8_newLength_cabcc_8 (by decide) ?_
  refine z_iload_n F 0 dJ8_newLength_cabcc_9 rfl rfl ?_
  refine z_icmp_ge (tgt := 21) F dJ8_newLength_cabcc_10 (by decide) (fun c1 => ?_) (fun c1 => ?_)
  · exact absurd ((nI_leI (by omega) (by decide : 0 < 2147483648)).mp (show nI (x + max y z) ≤ nI 0 from c1)) (by omega)
  · refine z_iload_n F 0 dJ8_newLength_cabcc_13 rfl rfl ?_
    refine z_ldc (v := 2147483639) F (List.mem_cons_of_mem _ (List.mem_of_getElem? (i := 4) rfl)) dJ8_newLength_cabcc_14 ?_
    refine z_icmp_gt (tgt := 21) F dJ8_newLength_cabcc_16 (by decide) (fun c2 => ?_) (fun c2 => ?_)
    · exact absurd ((nI_ltI (by decide : 2147483639 < 2147483648) (by omega)).mp (show nI 2147483639 < nI (x + max y z) from c2)) (by omega)
    · refine z_iload_n F 0 dJ8_newLength_cabcc_19 rfl rfl ?_
      exact z_iret F hA hQ hlk hr () (rfl) (rfl) dJ8_newLength_cabcc_20
set_option maxHeartbeats 4000000 in
set_option maxRecDepth 100000 in
theorem c_J5_newCapacity_0f7a4 (l : Launch) (D : va_G) (g : Nat → ClassId) (b0 : Nat) (b1 : Nat) (ml : Int32) (bn : Nat) (bc : Nat) (bp : Nat → Int8) (m9 : Nat) (hb3 : bc ≤ 300) (hm : bc < m9) (hm2 : m9 ≤ 140) (sz : Nat) : Met l yJ5_newCapacity_0f7a4 wsJ5_newCapacity_0f7a4 { frames := 2, cells := 0, slots := 0, locals := 37 } (zPc D (gT g) zNo [.ref b0, .int (nI m9)] [] [(b0, .inr (1, [.ref b1, .int 0, .int ml, .int (nI bn)])), (b1, .inl (g 3, bc, .inl ((zBy bp))))] sz) (zQi D [] (fun (r : Int32) (_ : Unit) => r = nI (bc + max (m9 - bc) (bc + 2))) (fun _ => []) sz) 0 0 (va_A [] sz) := by
  refine z_met (y := yJ5_newCapacity_0f7a4) (cc := cJ5_newCapacity_0f7a4) (nL := 6) (rm := { frames := 2, cells := 0, slots := 0, locals := 37 }) (D := D) (tys := gT g) (wr := [(b0, .inr (1, [.ref b1, .int 0, .int ml, .int (nI bn)])), (b1, .inl (g 3, bc, .inl ((zBy bp))))]) (P0 := zNo) (As := [.ref b0, .int (nI m9)]) (ww := []) (Qc := zQi D [] (fun (r : Int32) (_ : Unit) => r = nI (bc + max (m9 - bc) (bc + 2))) (fun _ => [])) (ret := (some .int)) (by decide) rfl (Nat.le_of_ble_eq_true rfl) ?_ sz
  intro p e s m args below meth c A Q hA hQ F E hr hlk hin
  show zW p l e { frames := 2, cells := 0, slots := 0, locals := 37 } s m args below meth c 6 D A Q 0 0 [] [(0, .ref b0), (1, .int (nI m9))] [] 0
  refine z_aload_n F 0 dJ5_newCapacity_0f7a4_0 rfl rfl ?_
  refine z_get (C := RJ4) (T := TJ4) (N := 4) F (fun w h => List.mem_cons_of_mem _ (List.mem_append_right _ (h))) 0 rfl rfl 0 (by decide) (List.mem_cons_of_mem _ (List.mem_append_left _ (List.mem_of_getElem? (i := 0) rfl))) rfl rfl dJ5_newCapacity_0f7a4_1 ?_
  refine z_alen (v := nI bc) F 1 3 rfl rfl rfl dJ5_newCapacity_0f7a4_4 ?_
  refine z_istore_n (lv' := [(2, .int (nI bc)), (0, .ref b0), (1, .int (nI m9))]) F dJ5_newCapacity_0f7a4_5 rfl (by decide) rfl ?_
  refine z_iload_n F 2 dJ5_newCapacity_0f7a4_6 rfl rfl ?_
  refine z_aload_n F 1 dJ5_newCapacity_0f7a4_7 rfl rfl ?_
  refine z_get (C := RJ4) (T := TJ4) (N := 4) F (fun w h => List.mem_cons_of_mem _ (List.mem_append_right _ (h))) 0 rfl rfl 1 (by decide) (List.mem_cons_of_mem _ (List.mem_append_left _ (List.mem_of_getElem? (i := 1) rfl))) rfl rfl dJ5_newCapacity_0f7a4_8 ?_
  refine z_ishl F dJ5_newCapacity_0f7a4_11 ?_
  refine z_top (y := nI m9) (z_shl0 _) ?_
  refine z_istore_n (lv' := [(3, .int (nI m9)), (2, .int (nI bc)), (0, .ref b0), (1, .int (nI m9))]) F dJ5_newCapacity_0f7a4_12 rfl (by decide) rfl ?_
  refine z_iload_n F 0 dJ5_newCapacity_0f7a4_13 rfl rfl ?_
  refine z_iload_n F 1 dJ5_newCapacity_0f7a4_14 rfl rfl ?_
  refine z_isub F dJ5_newCapacity_0f7a4_15 ?_
  refine z_top (y := nI (m9 - bc)) (pk_sub (by omega)) ?_
  refine z_istore (lv' := [(4, .int (nI (m9 - bc))), (3, .int (nI m9)), (2, .int (nI bc)), (0, .ref b0), (1, .int (nI m9))]) F dJ5_newCapacity_0f7a4_16 (by decide) rfl ?_
  refine z_iload_n F 2 dJ5_newCapacity_0f7a4_18 rfl rfl ?_
  refine z_iload F 0 dJ5_newCapacity_0f7a4_19 rfl ?_
  refine z_iload_n F 2 dJ5_newCapacity_0f7a4_21 rfl rfl ?_
  refine z_iconst (v := 2) F dJ5_newCapacity_0f7a4_22 (by decide) ?_
  refine z_aload_n F 3 dJ5_newCapacity_0f7a4_23 rfl rfl ?_
  refine z_get (C := RJ4) (T := TJ4) (N := 4) F (fun w h => List.mem_cons_of_mem _ (List.mem_append_right _ (h))) 0 rfl rfl 1 (by decide) (List.mem_cons_of_mem _ (List.mem_append_left _ (List.mem_of_getElem? (i := 1) rfl))) rfl rfl dJ5_newCapacity_0f7a4_24 ?_
  refine z_ishl F dJ5_newCapacity_0f7a4_27 ?_
  refine z_iadd F dJ5_newCapacity_0f7a4_28 ?_
  refine z_top (y := nI (bc + 2)) (by rw [z_shl0]; exact nI_add bc 2) ?_
  refine z_calli0 F (z_runS (st := []) F zNo_ok trivial (fun sz => c_J8_newLength_cabcc l D g bc (m9 - bc) (bc + 2) (by omega) (by omega) (by omega) (by omega) sz) (va_cwS 3 F.1.2.2.2.2 gJ5_newCapacity_0f7a4_J8_newLength_cabcc rfl rfl rfl (by decide +kernel) ⟨Nat.le_of_ble_eq_true rfl, Nat.le_of_ble_eq_true rfl⟩) [] [] rfl rfl (by decide) rfl rfl (Nat.le_of_ble_eq_true rfl) dJ5_newCapacity_0f7a4_29 ⟨Nat.le_of_ble_eq_true rfl, Nat.le_of_ble_eq_true rfl⟩) (fun r2 _ hw1 => ?_)
  subst hw1
  refine z_istore (lv' := [(5, .int (nI (bc + max (m9 - bc) (bc + 2)))), (4, .int (nI (m9 - bc))), (3, .int (nI m9)), (2, .int (nI bc)), (0, .ref b0), (1, .int (nI m9))]) F dJ5_newCapacity_0f7a4_32 (by decide) rfl ?_
  refine z_iload F 0 dJ5_newCapacity_0f7a4_34 rfl ?_
  refine z_ldc (v := 2147483647) F (List.mem_cons_of_mem _ (List.mem_append_left _ (List.mem_of_getElem? (i := 2) rfl))) dJ5_newCapacity_0f7a4_36 ?_
  refine z_icmp_ne (tgt := 51) F dJ5_newCapacity_0f7a4_38 (by decide) (fun c3 => ?_) (fun c3 => ?_)
  · refine z_iload F 0 dJ5_newCapacity_0f7a4_51 rfl ?_
    refine z_aload_n F 4 dJ5_newCapacity_0f7a4_53 rfl rfl ?_
    refine z_get (C := RJ4) (T := TJ4) (N := 4) F (fun w h => List.mem_cons_of_mem _ (List.mem_append_right _ (h))) 0 rfl rfl 1 (by decide) (List.mem_cons_of_mem _ (List.mem_append_left _ (List.mem_of_getElem? (i := 1) rfl))) rfl rfl dJ5_newCapacity_0f7a4_54 ?_
    refine z_ishr F dJ5_newCapacity_0f7a4_57 ?_
    refine z_top (y := nI (bc + max (m9 - bc) (bc + 2))) (z_shr0 _) ?_
    exact z_iret F hA hQ hlk hr () (rfl) (rfl) dJ5_newCapacity_0f7a4_58
  · exact absurd ((nI_eq (by omega) (by decide : 2147483647 < 2 ^ 31)).mp (show nI (bc + max (m9 - bc) (bc + 2)) = nI 2147483647 from c3)) (by omega)
set_option maxHeartbeats 4000000 in
set_option maxRecDepth 100000 in
theorem c_J7_copyOf_9075b (l : Launch) (D : va_G) (g : Nat → ClassId) (b1 : Nat) (bc : Nat) (bp : Nat → Int8) (n : Nat) (hb3 : bc ≤ 300) (hn : bc < n) (hn3 : n ≤ 300) (sz : Nat) : Met l yJ7_copyOf_9075b wsJ7_copyOf_9075b { frames := 1, cells := 1, slots := 300, locals := 18 } (zPc D (gT g) zNo [.ref b1, .int (nI n)] [(b1, .inl (g 3, bc, .inl ((zBy bp))))] [] sz) (zQr D [(b1, .inl (g 3, bc, .inl ((zBy bp))))] (fun (u : Nat → Int8) => ∀ k, k < bc → u k = bp k) (fun (u9 : Nat → Int8) (a9 : Nat) => [(b1, .inl (g 3, bc, .inl ((zBy bp)))), (a9, .inl (g 3, n, .inl ((zBy u9))))]) sz) 1 300 (va_A [(b1, .inl (g 3, bc, .inl ((zBy bp))))] sz) := by
  refine z_met (y := yJ7_copyOf_9075b) (cc := cJ7_copyOf_9075b) (nL := 3) (rm := { frames := 1, cells := 1, slots := 300, locals := 18 }) (D := D) (tys := gT g) (wr := []) (P0 := zNo) (As := [.ref b1, .int (nI n)]) (ww := [(b1, .inl (g 3, bc, .inl ((zBy bp))))]) (Qc := zQr D [(b1, .inl (g 3, bc, .inl ((zBy bp))))] (fun (u : Nat → Int8) => ∀ k, k < bc → u k = bp k) (fun (u9 : Nat → Int8) (a9 : Nat) => [(b1, .inl (g 3, bc, .inl ((zBy bp)))), (a9, .inl (g 3, n, .inl ((zBy u9))))])) (ret := (some (.array .byte))) (by decide) rfl (Nat.le_of_ble_eq_true rfl) ?_ sz
  intro p e s m args below meth c A Q hA hQ F E hr hlk hin
  show zW p l e { frames := 1, cells := 1, slots := 300, locals := 18 } s m args below meth c 3 D A Q 0 0 [(b1, .inl (g 3, bc, .inl ((zBy bp))))] [(0, .ref b1), (1, .int (nI n))] [] 0
  refine z_iload_n F 1 dJ7_copyOf_9075b_0 rfl rfl ?_
  refine z_aload_n F 0 dJ7_copyOf_9075b_1 rfl rfl ?_
  refine z_alen (v := nI bc) F 0 3 rfl rfl rfl dJ7_copyOf_9075b_2 ?_
  refine z_icmp_ne (tgt := 14) F dJ7_copyOf_9075b_3 (by decide) (fun c1 => ?_) (fun c1 => ?_)
  · refine z_iload_n F 1 dJ7_copyOf_9075b_14 rfl rfl ?_
    refine z_newaB (N := n) (wf := fun n2 => [(b1, .inl (g 3, bc, .inl ((zBy bp)))), (n2, .inl (g 3, n, .inl (fun _ => 0)))]) F (List.mem_cons_of_mem _ (List.mem_of_getElem? (i := 6) rfl)) 3 rfl (nI_pos (by omega)) (nI_clamp (by omega)) (by omega) (by first | exact Nat.le_of_ble_eq_true rfl | (dsimp only; omega)) (by dsimp only; omega) (fun _ => rfl) dJ7_copyOf_9075b_15 (fun n2 => ?_)
    refine z_cext (f' := (zBy (fun _ => 0))) (ws' := [(b1, .inl (g 3, bc, .inl ((zBy bp)))), (n2, .inl (g 3, n, .inl ((zBy (fun _ => 0)))))]) 1 rfl (fun k _ => (by decide : (0 : Int32) = (0 : Int8).toInt32)) rfl ?_
    refine z_astore_n (lv' := [(2, .ref n2), (0, .ref b1), (1, .int (nI n))]) F dJ7_copyOf_9075b_17 rfl (by decide) rfl ?_
    refine z_aload_n F 1 dJ7_copyOf_9075b_18 rfl rfl ?_
    refine z_iconst (v := 0) F dJ7_copyOf_9075b_19 (by decide) ?_
    refine z_aload_n F 0 dJ7_copyOf_9075b_20 rfl rfl ?_
    refine z_iconst (v := 0) F dJ7_copyOf_9075b_21 (by decide) ?_
    refine z_aload_n F 1 dJ7_copyOf_9075b_22 rfl rfl ?_
    refine z_alen (v := nI bc) F 0 3 rfl rfl rfl dJ7_copyOf_9075b_23 ?_
    refine z_iload_n F 2 dJ7_copyOf_9075b_24 rfl rfl ?_
    refine z_mmin F (List.mem_cons_of_mem _ (List.mem_of_getElem? (i := 7) rfl)) (List.mem_cons_of_mem _ (List.mem_of_getElem? (i := 8) rfl)) (List.mem_cons_of_mem _ (List.mem_of_getElem? (i := 9) rfl)) (List.mem_cons_of_mem _ (List.mem_of_getElem? (i := 10) rfl)) (Nat.le_of_ble_eq_true rfl) (Nat.le_of_ble_eq_true rfl) (Nat.le_of_ble_eq_true rfl) (by dsimp only; omega) dJ7_copyOf_9075b_25 ?_
    refine z_top (y := nI bc) (z_minL (by omega) (by omega)) ?_
    refine z_copyb (ws' := [(b1, .inl (g 3, bc, .inl ((zBy bp)))), (n2, .inl (g 3, n, .inl ((zBy (va_cpy bp ((fun _ => 0)) 0 0 bc)))))]) F (List.mem_cons_of_mem _ (List.mem_of_getElem? (i := 11) rfl)) (List.mem_cons_of_mem _ (List.mem_of_getElem? (i := 12) rfl)) (List.mem_cons_of_mem _ (List.mem_of_getElem? (i := 13) rfl)) (List.mem_cons_of_mem _ (List.mem_of_getElem? (i := 14) rfl)) 0 1 3 3 rfl rfl rfl rfl 0 0 bc rfl rfl rfl (by omega) (by omega) (by omega) (by omega) rfl (Nat.le_of_ble_eq_true rfl) (Nat.le_of_ble_eq_true rfl) dJ7_copyOf_9075b_28 ?_
    refine z_aload_n F 0 dJ7_copyOf_9075b_31 rfl rfl ?_
    refine z_wide (k := 1) (n := 300) (by omega) (by omega) ?_
    exact z_rret F hA hQ hlk hr (Or.inr ⟨_, rfl⟩) (va_cpy bp (fun _ => 0) 0 0 bc) (fun k hk => (if_pos ⟨Nat.zero_le _, by omega⟩).trans (by rw [Nat.zero_add, Nat.sub_zero])) (rfl) dJ7_copyOf_9075b_32
  · exact absurd ((nI_eq (by omega) (by omega)).mp c1) (by omega)
set_option maxHeartbeats 4000000 in
set_option maxRecDepth 100000 in
theorem c_J5_ensureCapacityInternal_d00df (l : Launch) (D : va_G) (g : Nat → ClassId) (b0 : Nat) (b1 : Nat) (ml : Int32) (bn : Nat) (bc : Nat) (bp : Nat → Int8) (m9 : Nat) (hb3 : bc ≤ 300) (hm2 : m9 ≤ 140) (sz : Nat) : Met l yJ5_ensureCapacityInternal_d00df wsJ5_ensureCapacityInternal_d00df { frames := 3, cells := 1, slots := 300, locals := 62 } (zPc D (gT g) zNo [.ref b0, .int (nI m9)] [(b0, .inr (1, [.ref b1, .int 0, .int ml, .int (nI bn)])), (b1, .inl (g 3, bc, .inl ((zBy bp))))] [] sz) (zQv D [(b0, .inr (1, [.ref b1, .int 0, .int ml, .int (nI bn)])), (b1, .inl (g 3, bc, .inl ((zBy bp))))] (fun (u : Nat × Nat × (Nat → Int8)) => m9 ≤ u.2.1 ∧ bc ≤ u.2.1 ∧ u.2.1 ≤ 300 ∧ (∀ k, k < bc → u.2.2 k = bp k) ∧ (u.2.1 = bc ∨ 2 * bc + 2 ≤ u.2.1)) (fun (u9 : Nat × Nat × (Nat → Int8)) => [(b0, .inr (1, [.ref u9.1, .int 0, .int ml, .int (nI bn)])), (u9.1, .inl (g 3, u9.2.1, .inl ((zBy u9.2.2))))]) sz) 1 300 (va_A [(b0, .inr (1, [.ref b1, .int 0, .int ml, .int (nI bn)])), (b1, .inl (g 3, bc, .inl ((zBy bp))))] sz) := by
  refine z_met (y := yJ5_ensureCapacityInternal_d00df) (cc := cJ5_ensureCapacityInternal_d00df) (nL := 3) (rm := { frames := 3, cells := 1, slots := 300, locals := 62 }) (D := D) (tys := gT g) (wr := []) (P0 := zNo) (As := [.ref b0, .int (nI m9)]) (ww := [(b0, .inr (1, [.ref b1, .int 0, .int ml, .int (nI bn)])), (b1, .inl (g 3, bc, .inl ((zBy bp))))]) (Qc := zQv D [(b0, .inr (1, [.ref b1, .int 0, .int ml, .int (nI bn)])), (b1, .inl (g 3, bc, .inl ((zBy bp))))] (fun (u : Nat × Nat × (Nat → Int8)) => m9 ≤ u.2.1 ∧ bc ≤ u.2.1 ∧ u.2.1 ≤ 300 ∧ (∀ k, k < bc → u.2.2 k = bp k) ∧ (u.2.1 = bc ∨ 2 * bc + 2 ≤ u.2.1)) (fun (u9 : Nat × Nat × (Nat → Int8)) => [(b0, .inr (1, [.ref u9.1, .int 0, .int ml, .int (nI bn)])), (u9.1, .inl (g 3, u9.2.1, .inl ((zBy u9.2.2))))])) (ret := none) (by decide) rfl (Nat.le_of_ble_eq_true rfl) ?_ sz
  intro p e s m args below meth c A Q hA hQ F E hr hlk hin
  show zW p l e { frames := 3, cells := 1, slots := 300, locals := 62 } s m args below meth c 3 D A Q 0 0 [(b0, .inr (1, [.ref b1, .int 0, .int ml, .int (nI bn)])), (b1, .inl (g 3, bc, .inl ((zBy bp))))] [(0, .ref b0), (1, .int (nI m9))] [] 0
  refine z_aload_n F 0 dJ5_ensureCapacityInternal_d00df_0 rfl rfl ?_
  refine z_get (C := RJ4) (T := TJ4) (N := 4) F (fun w h => List.mem_cons_of_mem _ (List.mem_append_right _ (h))) 0 rfl rfl 0 (by decide) (List.mem_cons_of_mem _ (List.mem_append_left _ (List.mem_append_left _ (List.mem_of_getElem? (i := 0) rfl)))) rfl rfl dJ5_ensureCapacityInternal_d00df_1 ?_
  refine z_alen (v := nI bc) F 1 3 rfl rfl rfl dJ5_ensureCapacityInternal_d00df_4 ?_
  refine z_aload_n F 0 dJ5_ensureCapacityInternal_d00df_5 rfl rfl ?_
  refine z_get (C := RJ4) (T := TJ4) (N := 4) F (fun w h => List.mem_cons_of_mem _ (List.mem_append_right _ (h))) 0 rfl rfl 1 (by decide) (List.mem_cons_of_mem _ (List.mem_append_left _ (List.mem_append_left _ (List.mem_of_getElem? (i := 1) rfl)))) rfl rfl dJ5_ensureCapacityInternal_d00df_6 ?_
  refine z_ishr F dJ5_ensureCapacityInternal_d00df_9 ?_
  refine z_top (y := nI bc) (z_shr0 _) ?_
  refine z_istore_n (lv' := [(2, .int (nI bc)), (0, .ref b0), (1, .int (nI m9))]) F dJ5_ensureCapacityInternal_d00df_10 rfl (by decide) rfl ?_
  refine z_iload_n F 2 dJ5_ensureCapacityInternal_d00df_11 rfl rfl ?_
  refine z_iload_n F 0 dJ5_ensureCapacityInternal_d00df_12 rfl rfl ?_
  refine z_isub F dJ5_ensureCapacityInternal_d00df_13 ?_
  refine z_if_le (tgt := 38) F dJ5_ensureCapacityInternal_d00df_14 (by decide) (fun c1 => ?_) (fun c1 => ?_)
  · have hle : m9 ≤ bc := z_subLe (by omega) (by omega) c1
    refine z_wide (k := 1) (n := 300) (Nat.le_of_ble_eq_true rfl) (Nat.le_of_ble_eq_true rfl) ?_
    exact z_vret F hA hQ hlk hr (b1, bc, bp) (⟨by dsimp only; omega, by dsimp only; omega, by dsimp only; omega, fun _ _ => rfl, Or.inl rfl⟩) (rfl) dJ5_ensureCapacityInternal_d00df_38
  · have hlt : bc < m9 := Nat.lt_of_not_le (fun q => c1 (by rw [Int32.le_iff_toInt_le, pk_sub_toInt (by omega) (by omega), Int32.toInt_zero]; omega))
    refine z_aload_n F 1 dJ5_ensureCapacityInternal_d00df_17 rfl rfl ?_
    refine z_aload_n F 1 dJ5_ensureCapacityInternal_d00df_18 rfl rfl ?_
    refine z_get (C := RJ4) (T := TJ4) (N := 4) F (fun w h => List.mem_cons_of_mem _ (List.mem_append_right _ (h))) 0 rfl rfl 0 (by decide) (List.mem_cons_of_mem _ (List.mem_append_left _ (List.mem_append_left _ (List.mem_of_getElem? (i := 0) rfl)))) rfl rfl dJ5_ensureCapacityInternal_d00df_19 ?_
    refine z_aload_n F 1 dJ5_ensureCapacityInternal_d00df_22 rfl rfl ?_
    refine z_iload_n F 2 dJ5_ensureCapacityInternal_d00df_23 rfl rfl ?_
    refine z_calli0 F (z_runU (st := [.ref b1, .ref b0]) F zNo_ok trivial (fun sz => c_J5_newCapacity_0f7a4 l D g b0 b1 ml bn bc bp m9 (hb3) (hlt) (hm2) sz) (va_cwU 1 F.1.2.2.2.2 gJ5_ensureCapacityInternal_d00df_J5_newCapacity_0f7a4_u104J4 rfl rfl rfl rfl (by decide +kernel) ⟨Nat.le_of_ble_eq_true rfl, Nat.le_of_ble_eq_true rfl⟩) 0 rfl rfl rfl [] [0, 1] rfl rfl (by decide) rfl rfl (Nat.le_of_ble_eq_true rfl) dJ5_ensureCapacityInternal_d00df_24 ⟨Nat.le_of_ble_eq_true rfl, Nat.le_of_ble_eq_true rfl⟩) (fun r3 _ hw2 => ?_)
    subst hw2
    refine z_aload_n F 1 dJ5_ensureCapacityInternal_d00df_27 rfl rfl ?_
    refine z_get (C := RJ4) (T := TJ4) (N := 4) F (fun w h => List.mem_cons_of_mem _ (List.mem_append_right _ (h))) 0 rfl rfl 1 (by decide) (List.mem_cons_of_mem _ (List.mem_append_left _ (List.mem_append_left _ (List.mem_of_getElem? (i := 1) rfl)))) rfl rfl dJ5_ensureCapacityInternal_d00df_28 ?_
    refine z_ishl F dJ5_ensureCapacityInternal_d00df_31 ?_
    refine z_top (y := nI (bc + max (m9 - bc) (bc + 2))) (z_shl0 _) ?_
    refine z_callr (wn := [(b0, .inr (1, [.ref b1, .int 0, .int ml, .int (nI bn)]))]) (wf := fun u5 a32_ => [(b0, .inr (1, [.ref b1, .int 0, .int ml, .int (nI bn)])), (b1, .inl (g 3, bc, .inl ((zBy bp)))), (a32_, .inl (g 3, bc + max (m9 - bc) (bc + 2), .inl ((zBy u5))))]) F (z_runS (st := [.ref b0]) F zNo_ok trivial (fun sz => c_J7_copyOf_9075b l D g b1 bc bp (bc + max (m9 - bc) (bc + 2)) (hb3) (by omega) (by omega) sz) (va_cwS 2 F.1.2.2.2.2 gJ5_ensureCapacityInternal_d00df_J7_copyOf_9075b rfl rfl rfl (by decide +kernel) ⟨Nat.le_of_ble_eq_true rfl, Nat.le_of_ble_eq_true rfl⟩) [1] [] rfl rfl (by decide) rfl rfl (Nat.le_of_ble_eq_true rfl) dJ5_ensureCapacityInternal_d00df_32 ⟨Nat.le_of_ble_eq_true rfl, Nat.le_of_ble_eq_true rfl⟩) [1] [0] [0, 1, 2] rfl rfl (by decide) (by decide) (by decide) (fun _ _ => rfl) (fun u5 a32_ hw4 => ?_)
    obtain ⟨f9_32, he32⟩ : ∃ z9, z9 = u5 := ⟨_, rfl⟩
    subst he32
    have hsame_32 := hw4
    try dsimp only at hsame_32
    refine z_put (C := RJ4) (T := TJ4) (N := 4) (ty := (.array .byte)) (ws' := [(b0, .inr (1, [.ref a32_, .int 0, .int ml, .int (nI bn)])), (b1, .inl (g 3, bc, .inl ((zBy bp)))), (a32_, .inl (g 3, bc + max (m9 - bc) (bc + 2), .inl ((zBy f9_32))))]) F (fun w h => List.mem_cons_of_mem _ (List.mem_append_right _ (h))) tyJ4 tyJ4_ok nmJ4 0 rfl rfl 0 (by decide) (List.mem_cons_of_mem _ (List.mem_append_left _ (List.mem_append_left _ (List.mem_of_getElem? (i := 0) rfl)))) rfl rfl (by decide +kernel) (rfl) (rfl) (Nat.le_of_ble_eq_true rfl) rfl dJ5_ensureCapacityInternal_d00df_35 ?_
    refine z_wide (k := 1) (n := 300) (Nat.le_of_ble_eq_true rfl) (Nat.le_of_ble_eq_true rfl) ?_
    refine z_sub (ws' := [(b0, .inr (1, [.ref a32_, .int 0, .int ml, .int (nI bn)])), (a32_, .inl (g 3, bc + max (m9 - bc) (bc + 2), .inl ((zBy f9_32))))]) [0, 2] (by decide) rfl ?_
    exact z_vret F hA hQ hlk hr (a32_, bc + max (m9 - bc) (bc + 2), f9_32) (⟨by dsimp only; omega, by dsimp only; omega, by dsimp only; omega, hsame_32, Or.inr (by dsimp only; omega)⟩) (rfl) dJ5_ensureCapacityInternal_d00df_38
