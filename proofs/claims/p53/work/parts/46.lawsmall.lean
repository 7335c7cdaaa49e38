/-! THE LAW'S SMALL METHODS -/
def f_nanD (d : UInt64) : Int32 := if Op.cmpValue (FP.dcmp d d) .l = 0 then 0 else 1
def f_nanF (d : UInt32) : Int32 := if Op.cmpValue (FP.fcmp d d) .l = 0 then 0 else 1
def f_d2l (d : UInt64) : Int64 := if f_nanD d = 0 then d.toInt64 else 9221120237041090560
def f_f2i (d : UInt32) : Int32 := if f_nanF d = 0 then d.toInt32 else 2143289344
def f_at (sn : Nat) (xs : Nat → Int32) (v : Int32) : Int32 := if nI sn ≤ v then 0 else xs v.toNatClampNeg
def f_some (v n : Int32) : Int32 := if 0 ≤ v - v / n * n then v - v / n * n else v - v / n * n + n
theorem z_leC {sn : Nat} {v : Int32} (hs : sn < 2147483648) (h0 : ¬ v < 0) (h : sn ≤ v.toNatClampNeg) : nI sn ≤ v := by
  rw [Int32.le_iff_toInt_le, nI_toInt hs]
  have h1 : v.toNatClampNeg = v.toInt.toNat := rfl
  have h2 : ¬ v.toInt < 0 := fun q => h0 (Int32.lt_iff_toInt_lt.mpr (by rw [Int32.toInt_zero]; exact q))
  omega
theorem z_ofWF {l : Launch} {y : MethodName} {ws ws' : List Cond} {rm : Room} {Pc : Array Value → State → Prop} {Qc : Array Value → State → Outcome → State → Prop} {mc ms : Nat} {free : Addr → Prop} {cc : ByteArray} {maxL : Nat} {ret : Option FieldType}
    (hy : plainFor y = true) (hw : ws = Cond.code y cc maxL ret :: ws')
    (body : ∀ p e s m args below meth c s₁, BodyLoose p l y (headSpec ws rm) cc maxL ret e s m args below meth c s₁ → c.maxLocals = maxL → Pc args s →
      W p l e (headSpec ws rm).room s m args below meth c s.heap [] 0 0 (MQ below Qc args s mc ms free) (entryFrame m args maxL)) : Met l y ws rm Pc Qc mc ms free := by
  refine MetFree.of_bodySF (code := cc) (maxLocals := maxL) (ret := ret) hy ?_ ?_
  · intro args s m h hn
    obtain ⟨meth, c, h1, h2, h3, h4, h5, h6, -, -⟩ := Cond.code_spec hn (atoms_spec (ws := ws) h _ (by rw [hw]; exact List.mem_cons_self))
    exact ⟨meth, c, h1, h2, h3, h4, h5, h6⟩
  · intro p e s m args below meth c s₁ B hml hP _
    have hh0 : s₁.heap = s.heap := by rw [B.state]; rfl
    obtain ⟨t, a1, o, b1, b2, b3⟩ := body p e s m args below meth c s₁ B hml hP s₁ hh0 (Stand.of_body B)
    exact ⟨t, o, a1, b1, b2, ⟨b3.1, b3.2⟩⟩
/-- a contract of a method of java.lang.Float, out of its walk -/
theorem z_metF {l : Launch} {cc : ByteArray} {nL : Nat} {D : va_G} {tys : List (ClassId × FieldType)} {wr : va_W} {y : MethodName} {wsy ws' : List Cond} {rm : Room} {P0 : zE} {As : List Value} {ww : va_W} {Qc : Nat → Array Value → State → Outcome → State → Prop} {mc ms : Nat} {ret : Option FieldType} (hy : plainFor y = true) (hw : wsy = Cond.code y cc nL ret :: ws') (hlen : (lg_sl As).length ≤ nL)
    (body : ∀ (p : Program) (e : Env) (s : State) (m : MethodId) (args : Array Value) (below : List Frame) (meth : Method) (c : Code) (A : Nat → Prop) (Q : State → Prop), A = va_A ww s.heap.size → Q = MQ below (Qc s.heap.size) args s mc ms (va_A ww s.heap.size) → zF p s m args meth c cc nL y.cls wsy D tys A wr → P0 A s s.heap → meth.sig.returnType = ret → meth.locks = false → (y.name = "<init>" → meth.name = "<init>") →
      zW p l e rm s m args below meth c nL D A Q 0 0 ww (lv_args 0 As) [] 0) (sz : Nat) : Met l y wsy rm (zPc D tys P0 As ww wr sz) (Qc sz) mc ms (va_A ww sz) := by
  refine z_ofWF (cc := cc) (maxL := nL) (ret := ret) hy hw ?_
  intro p e s m args below meth c s₁ B hml hv
  obtain ⟨rfl, hsz, hP, hK, hD, hE⟩ := hv
  subst hsz
  obtain ⟨hP1, hD1, hR1, hN1, hDr⟩ := z_open hP hD
  have hl := lv_entry As (n := nL) hlen
  rw [lg_entry_eq]
  exact body p e s m _ below meth c _ _ rfl rfl ⟨⟨B.exec, B.bytes, hml, findClass_of_methodNamed B.named, atoms_spec (ws := wsy) B.pre⟩, hK, fun q h => Or.inr h, hR1, hN1, hDr⟩ hE B.returns B.notSynchronized (fun hn => by rw [(name_of_methodNamed B.named B.method).1]; exact hn) s.heap [] _ hP1 hD1 va_S.rf hl
theorem f_some_lt (v : Int32) {n : Nat} (h1 : 1 ≤ n) (hn : n < 2147483648) : ∃ t, t < n ∧ f_some v (nI n) = nI t := by
  have b1 := Int32.le_toInt v
  have b2 := Int32.toInt_lt v
  rcases (by omega : 0 ≤ v.toInt ∨ v.toInt < 0) with h | h
  · obtain ⟨a, ha⟩ : ∃ a : Nat, v.toInt = (a : Int) := ⟨v.toInt.toNat, by omega⟩
    have d1 := Nat.div_le_self a n
    have d2 := Nat.div_mul_le_self a n
    have d3 := Nat.mod_lt a (show n > 0 by omega)
    have d4 : a / n * n + a % n = a := by rw [Nat.mul_comm]; exact Nat.div_add_mod a n
    obtain ⟨q9, hq9⟩ : ∃ q9, q9 = a / n := ⟨_, rfl⟩
    obtain ⟨m9, hm9⟩ : ∃ m9, m9 = a % n := ⟨_, rfl⟩
    rw [← hq9] at d1 d2
    rw [← hm9] at d3
    rw [← hq9, ← hm9] at d4
    have e1 : (v / nI n).toInt = ((q9 : Nat) : Int) := by
      rw [Int32.toInt_div, ha, nI_toInt hn, ← Int.ofNat_tdiv, ← hq9]
      exact Int.bmod_eq_of_le (by omega) (by omega)
    have e2 : (v / nI n * nI n).toInt = ((q9 * n : Nat) : Int) := by
      rw [Int32.toInt_mul, e1, nI_toInt hn, ← Int.natCast_mul]
      exact Int.bmod_eq_of_le (by omega) (by omega)
    have e3 : (v - v / nI n * nI n).toInt = ((m9 : Nat) : Int) := by
      rw [Int32.toInt_sub, ha, e2]
      rw [Int.bmod_eq_of_le (by omega) (by omega)]
      omega
    refine ⟨m9, d3, ?_⟩
    unfold f_some
    rw [if_pos (Int32.le_iff_toInt_le.mpr (by rw [e3, Int32.toInt_zero]; omega))]
    apply Int32.toInt_inj.mp
    rw [e3, nI_toInt (by omega)]
  · obtain ⟨a, ha⟩ : ∃ a : Nat, v.toInt = -(a : Int) := ⟨(-v.toInt).toNat, by omega⟩
    have d1 := Nat.div_le_self a n
    have d2 := Nat.div_mul_le_self a n
    have d3 := Nat.mod_lt a (show n > 0 by omega)
    have d4 : a / n * n + a % n = a := by rw [Nat.mul_comm]; exact Nat.div_add_mod a n
    obtain ⟨q9, hq9⟩ : ∃ q9, q9 = a / n := ⟨_, rfl⟩
    obtain ⟨m9, hm9⟩ : ∃ m9, m9 = a % n := ⟨_, rfl⟩
    rw [← hq9] at d1 d2
    rw [← hm9] at d3
    rw [← hq9, ← hm9] at d4
    have e1 : (v / nI n).toInt = -((q9 : Nat) : Int) := by
      rw [Int32.toInt_div, ha, nI_toInt hn, Int.neg_tdiv, ← Int.ofNat_tdiv, ← hq9]
      exact Int.bmod_eq_of_le (by omega) (by omega)
    have e2 : (v / nI n * nI n).toInt = -((q9 * n : Nat) : Int) := by
      rw [Int32.toInt_mul, e1, nI_toInt hn, Int.neg_mul, ← Int.natCast_mul]
      exact Int.bmod_eq_of_le (by omega) (by omega)
    have e3 : (v - v / nI n * nI n).toInt = -((m9 : Nat) : Int) := by
      rw [Int32.toInt_sub, ha, e2]
      rw [Int.bmod_eq_of_le (by omega) (by omega)]
      omega
    by_cases q : m9 = 0
    · refine ⟨0, by omega, ?_⟩
      unfold f_some
      rw [if_pos (Int32.le_iff_toInt_le.mpr (by rw [e3, Int32.toInt_zero]; omega))]
      apply Int32.toInt_inj.mp
      rw [e3, nI_toInt (by omega)]
      omega
    · refine ⟨n - m9, by omega, ?_⟩
      unfold f_some
      rw [if_neg (fun z => by
        have := Int32.le_iff_toInt_le.mp z
        rw [e3, Int32.toInt_zero] at this
        omega)]
      apply Int32.toInt_inj.mp
      rw [Int32.toInt_add, e3, nI_toInt hn, nI_toInt (by omega)]
      rw [Int.bmod_eq_of_le (by omega) (by omega)]
      omega
set_option maxHeartbeats 4000000 in
set_option maxRecDepth 100000 in
theorem c_Jxe99ae_isNaN_b9ae7 (l : Launch) (D : va_G) (g : Nat → ClassId) (d : UInt64) (sz : Nat) : Met l yJxe99ae_isNaN_b9ae7 wsJxe99ae_isNaN_b9ae7 { frames := 0, cells := 0, slots := 0, locals := 0 } (zPc D (gT g) zNo [.double d] [] [] sz) (zQi D [] (fun (r : Int32) (_ : Unit) => r = f_nanD d) (fun _ => []) sz) 0 0 (va_A [] sz) := by
  refine z_met (y := yJxe99ae_isNaN_b9ae7) (cc := cJxe99ae_isNaN_b9ae7) (nL := 2) (rm := { frames := 0, cells := 0, slots := 0, locals := 0 }) (D := D) (tys := gT g) (wr := []) (P0 := zNo) (As := [.double d]) (ww := []) (Qc := zQi D [] (fun (r : Int32) (_ : Unit) => r = f_nanD d) (fun _ => [])) (ret := (some .boolean)) (by decide) rfl (Nat.le_of_ble_eq_true rfl) ?_ sz
  intro p e s m args below meth c A Q hA hQ F E hr hlk hin
  show zW p l e { frames := 0, cells := 0, slots := 0, locals := 0 } s m args below meth c 2 D A Q 0 0 [] [(0, .double d)] [] 0
  refine z_dload_n F 0 dJxe99ae_isNaN_b9ae7_0 rfl rfl ?_
  refine z_dload_n F 0 dJxe99ae_isNaN_b9ae7_1 rfl rfl ?_
  refine z_dcmp F dJxe99ae_isNaN_b9ae7_2 ?_
  refine z_if_eq (tgt := 10) F dJxe99ae_isNaN_b9ae7_3 (by decide) (fun c1 => ?_) (fun c1 => ?_)
  · refine z_iconst (v := 0) F dJxe99ae_isNaN_b9ae7_10 (by decide) ?_
    exact z_zret F hA hQ hlk hr (rfl) () (by simp only [f_nanD, if_pos c1]) (rfl) dJxe99ae_isNaN_b9ae7_11
  · refine z_iconst (v := 1) F dJxe99ae_isNaN_b9ae7_6 (by decide) ?_
    refine z_goto (tgt := 11) F dJxe99ae_isNaN_b9ae7_7 (by decide) ?_
    exact z_zret F hA hQ hlk hr (rfl) () (by simp only [f_nanD, if_neg c1]) (rfl) dJxe99ae_isNaN_b9ae7_11
set_option maxHeartbeats 4000000 in
set_option maxRecDepth 100000 in
theorem c_Jxe99ae_doubleToLongBits_ccdee (l : Launch) (D : va_G) (g : Nat → ClassId) (d : UInt64) (sz : Nat) : Met l yJxe99ae_doubleToLongBits_ccdee wsJxe99ae_doubleToLongBits_ccdee { frames := 1, cells := 0, slots := 0, locals := 21 } (zPc D (gT g) zNo [.double d] [] [] sz) (zQl D [] (fun (r : Int64) (_ : Unit) => r = f_d2l d) (fun _ => []) sz) 0 0 (va_A [] sz) := by
  refine z_met (y := yJxe99ae_doubleToLongBits_ccdee) (cc := cJxe99ae_doubleToLongBits_ccdee) (nL := 2) (rm := { frames := 1, cells := 0, slots := 0, locals := 21 }) (D := D) (tys := gT g) (wr := []) (P0 := zNo) (As := [.double d]) (ww := []) (Qc := zQl D [] (fun (r : Int64) (_ : Unit) => r = f_d2l d) (fun _ => [])) (ret := (some .long)) (by decide) rfl (Nat.le_of_ble_eq_true rfl) ?_ sz
  intro p e s m args below meth c A Q hA hQ F E hr hlk hin
  show zW p l e { frames := 1, cells := 0, slots := 0, locals := 21 } s m args below meth c 2 D A Q 0 0 [] [(0, .double d)] [] 0
  refine z_dload_n F 0 dJxe99ae_doubleToLongBits_ccdee_0 rfl rfl ?_
  refine z_calli0 F (z_runS (st := []) F zNo_ok trivial (fun sz => c_Jxe99ae_isNaN_b9ae7 l D g d sz) (va_cwS 1 F.1.2.2.2.2 gJxe99ae_doubleToLongBits_ccdee_Jxe99ae_isNaN_b9ae7 rfl rfl rfl (by decide +kernel) ⟨Nat.le_of_ble_eq_true rfl, Nat.le_of_ble_eq_true rfl⟩) [] [] rfl rfl (by decide) rfl rfl (Nat.le_of_ble_eq_true rfl) dJxe99ae_doubleToLongBits_ccdee_1 ⟨Nat.le_of_ble_eq_true rfl, Nat.le_of_ble_eq_true rfl⟩) (fun r2 _ hw1 => ?_)
  subst hw1
  refine z_if_ne (tgt := 12) F dJxe99ae_doubleToLongBits_ccdee_4 (by decide) (fun c3 => ?_) (fun c3 => ?_)
  · refine z_ldc2 (v := 9221120237041090560) F (List.mem_cons_of_mem _ (List.mem_of_getElem? (i := 4) rfl)) dJxe99ae_doubleToLongBits_ccdee_12 ?_
    exact z_lret F hA hQ hlk hr () (by simp only [f_d2l, if_neg c3]) (rfl) dJxe99ae_doubleToLongBits_ccdee_15
  · refine z_dload_n F 0 dJxe99ae_doubleToLongBits_ccdee_7 rfl rfl ?_
    refine z_d2l F (List.mem_cons_of_mem _ (List.mem_of_getElem? (i := 0) rfl)) (List.mem_cons_of_mem _ (List.mem_of_getElem? (i := 1) rfl)) (List.mem_cons_of_mem _ (List.mem_of_getElem? (i := 2) rfl)) (List.mem_cons_of_mem _ (List.mem_of_getElem? (i := 3) rfl)) (Nat.le_of_ble_eq_true rfl) (Nat.le_of_ble_eq_true rfl) dJxe99ae_doubleToLongBits_ccdee_8 ?_
    exact z_lret F hA hQ hlk hr () (by simp only [f_d2l, if_pos c3]) (rfl) dJxe99ae_doubleToLongBits_ccdee_11
set_option maxHeartbeats 4000000 in
set_option maxRecDepth 100000 in
theorem c_Jxf58ca_isNaN_12338 (l : Launch) (D : va_G) (g : Nat → ClassId) (d : UInt32) (sz : Nat) : Met l yJxf58ca_isNaN_12338 wsJxf58ca_isNaN_12338 { frames := 0, cells := 0, slots := 0, locals := 0 } (zPc D (gT g) zNo [.float d] [] [] sz) (zQi D [] (fun (r : Int32) (_ : Unit) => r = f_nanF d) (fun _ => []) sz) 0 0 (va_A [] sz) := by
  refine z_metF (y := yJxf58ca_isNaN_12338) (cc := cJxf58ca_isNaN_12338) (nL := 1) (rm := { frames := 0, cells := 0, slots := 0, locals := 0 }) (D := D) (tys := gT g) (wr := []) (P0 := zNo) (As := [.float d]) (ww := []) (Qc := zQi D [] (fun (r : Int32) (_ : Unit) => r = f_nanF d) (fun _ => [])) (ret := (some .boolean)) (by decide +kernel) rfl (Nat.le_of_ble_eq_true rfl) ?_ sz
  intro p e s m args below meth c A Q hA hQ F E hr hlk hin
  show zW p l e { frames := 0, cells := 0, slots := 0, locals := 0 } s m args below meth c 1 D A Q 0 0 [] [(0, .float d)] [] 0
  refine z_fload_n F 0 dJxf58ca_isNaN_12338_0 rfl rfl ?_
  refine z_fload_n F 0 dJxf58ca_isNaN_12338_1 rfl rfl ?_
  refine z_fcmp F dJxf58ca_isNaN_12338_2 ?_
  refine z_if_eq (tgt := 10) F dJxf58ca_isNaN_12338_3 (by decide) (fun c1 => ?_) (fun c1 => ?_)
  · refine z_iconst (v := 0) F dJxf58ca_isNaN_12338_10 (by decide) ?_
    exact z_zret F hA hQ hlk hr (rfl) () (by simp only [f_nanF, if_pos c1]) (rfl) dJxf58ca_isNaN_12338_11
  · refine z_iconst (v := 1) F dJxf58ca_isNaN_12338_6 (by decide) ?_
    refine z_goto (tgt := 11) F dJxf58ca_isNaN_12338_7 (by decide) ?_
    exact z_zret F hA hQ hlk hr (rfl) () (by simp only [f_nanF, if_neg c1]) (rfl) dJxf58ca_isNaN_12338_11
set_option maxHeartbeats 4000000 in
set_option maxRecDepth 100000 in
theorem c_Jxf58ca_floatToIntBits_5c35a (l : Launch) (D : va_G) (g : Nat → ClassId) (d : UInt32) (sz : Nat) : Met l yJxf58ca_floatToIntBits_5c35a wsJxf58ca_floatToIntBits_5c35a { frames := 1, cells := 0, slots := 0, locals := 20 } (zPc D (gT g) zNo [.float d] [] [] sz) (zQi D [] (fun (r : Int32) (_ : Unit) => r = f_f2i d) (fun _ => []) sz) 0 0 (va_A [] sz) := by
  refine z_metF (y := yJxf58ca_floatToIntBits_5c35a) (cc := cJxf58ca_floatToIntBits_5c35a) (nL := 1) (rm := { frames := 1, cells := 0, slots := 0, locals := 20 }) (D := D) (tys := gT g) (wr := []) (P0 := zNo) (As := [.float d]) (ww := []) (Qc := zQi D [] (fun (r : Int32) (_ : Unit) => r = f_f2i d) (fun _ => [])) (ret := (some .int)) (by decide +kernel) rfl (Nat.le_of_ble_eq_true rfl) ?_ sz
  intro p e s m args below meth c A Q hA hQ F E hr hlk hin
  show zW p l e { frames := 1, cells := 0, slots := 0, locals := 20 } s m args below meth c 1 D A Q 0 0 [] [(0, .float d)] [] 0
  refine z_fload_n F 0 dJxf58ca_floatToIntBits_5c35a_0 rfl rfl ?_
  refine z_calli0 F (z_runS (st := []) F zNo_ok trivial (fun sz => c_Jxf58ca_isNaN_12338 l D g d sz) (va_cwS 1 F.1.2.2.2.2 gJxf58ca_floatToIntBits_5c35a_Jxf58ca_isNaN_12338 rfl rfl rfl (by decide +kernel) ⟨Nat.le_of_ble_eq_true rfl, Nat.le_of_ble_eq_true rfl⟩) [] [] rfl rfl (by decide) rfl rfl (Nat.le_of_ble_eq_true rfl) dJxf58ca_floatToIntBits_5c35a_1 ⟨Nat.le_of_ble_eq_true rfl, Nat.le_of_ble_eq_true rfl⟩) (fun r2 _ hw1 => ?_)
  subst hw1
  refine z_if_ne (tgt := 12) F dJxf58ca_floatToIntBits_5c35a_4 (by decide) (fun c3 => ?_) (fun c3 => ?_)
  · refine z_ldc (v := 2143289344) F (List.mem_cons_of_mem _ (List.mem_of_getElem? (i := 4) rfl)) dJxf58ca_floatToIntBits_5c35a_12 ?_
    exact z_iret F hA hQ hlk hr () (by simp only [f_f2i, if_neg c3]) (rfl) dJxf58ca_floatToIntBits_5c35a_14
  · refine z_fload_n F 0 dJxf58ca_floatToIntBits_5c35a_7 rfl rfl ?_
    refine z_f2i F (List.mem_cons_of_mem _ (List.mem_of_getElem? (i := 0) rfl)) (List.mem_cons_of_mem _ (List.mem_of_getElem? (i := 1) rfl)) (List.mem_cons_of_mem _ (List.mem_of_getElem? (i := 2) rfl)) (List.mem_cons_of_mem _ (List.mem_of_getElem? (i := 3) rfl)) (Nat.le_of_ble_eq_true rfl) (Nat.le_of_ble_eq_true rfl) dJxf58ca_floatToIntBits_5c35a_8 ?_
    exact z_iret F hA hQ hlk hr () (by simp only [f_f2i, if_pos c3]) (rfl) dJxf58ca_floatToIntBits_5c35a_11
set_option maxHeartbeats 4000000 in
set_option maxRecDepth 100000 in
theorem c_L_at (l : Launch) (D : va_G) (g : Nat → ClassId) (er : Nat → Nat) (dg : Nat → Nat) (ec : Nat → Nat) (fs : Nat → Nat) (fv : Nat → Nat) (qa : Nat) (sw : Nat) (sb : Nat) (sn : Nat) (xs : Nat → Int32) (v : Int32) (hv0 : ¬ v < 0) (sz : Nat) : Met l yL_at wsL_at { frames := 0, cells := 0, slots := 0, locals := 0 } (zPc D (gT g) (zEnvL er D g dg ec fs fv qa sw sb sn xs) [.ref sb, .int v] [] [] sz) (zQi D [] (fun (r : Int32) (_ : Unit) => r = f_at sn xs v) (fun _ => []) sz) 0 0 (va_A [] sz) := by
  refine z_met (y := yL_at) (cc := cL_at) (nL := 2) (rm := { frames := 0, cells := 0, slots := 0, locals := 0 }) (D := D) (tys := gT g) (wr := []) (P0 := zEnvL er D g dg ec fs fv qa sw sb sn xs) (As := [.ref sb, .int v]) (ww := []) (Qc := zQi D [] (fun (r : Int32) (_ : Unit) => r = f_at sn xs v) (fun _ => [])) (ret := (some .int)) (by decide) rfl (Nat.le_of_ble_eq_true rfl) ?_ sz
  intro p e s m args below meth c A Q hA hQ F E hr hlk hin
  show zW p l e { frames := 0, cells := 0, slots := 0, locals := 0 } s m args below meth c 2 D A Q 0 0 [] [(0, .ref sb), (1, .int v)] [] 0
  refine z_iload_n F 1 dL_at_0 rfl rfl ?_
  refine z_aload_n F 0 dL_at_1 rfl rfl ?_
  refine z_slen F E.2.2 dL_at_2 ?_
  refine z_icmp_ge (tgt := 12) F dL_at_3 (by decide) (fun c1 => ?_) (fun c1 => ?_)
  · refine z_iconst (v := 0) F dL_at_12 (by decide) ?_
    exact z_iret F hA hQ hlk hr () (by simp only [f_at, if_pos c1]) (rfl) dL_at_13
  · refine z_aload_n F 0 dL_at_6 rfl rfl ?_
    refine z_iload_n F 1 dL_at_7 rfl rfl ?_
    refine z_sld F E.2.2 (fun q => q.elim hv0 (fun h9 => c1 (z_leC (Nat.lt_of_le_of_lt E.2.2.2.2.2 (by decide)) hv0 h9))) dL_at_8 ?_
    refine z_goto (tgt := 13) F dL_at_9 (by decide) ?_
    exact z_iret F hA hQ hlk hr () (by simp only [f_at, if_neg c1]) (rfl) dL_at_13
set_option maxHeartbeats 4000000 in
set_option maxRecDepth 100000 in
theorem c_L_some (l : Launch) (D : va_G) (g : Nat → ClassId) (v : Int32) (n : Int32) (hn : ¬ n = 0) (sz : Nat) : Met l yL_some wsL_some { frames := 0, cells := 0, slots := 0, locals := 0 } (zPc D (gT g) zNo [.int v, .int n] [] [] sz) (zQi D [] (fun (r : Int32) (_ : Unit) => r = f_some v n) (fun _ => []) sz) 0 0 (va_A [] sz) := by
  refine z_met (y := yL_some) (cc := cL_some) (nL := 3) (rm := { frames := 0, cells := 0, slots := 0, locals := 0 }) (D := D) (tys := gT g) (wr := []) (P0 := zNo) (As := [.int v, .int n]) (ww := []) (Qc := zQi D [] (fun (r : Int32) (_ : Unit) => r = f_some v n) (fun _ => [])) (ret := (some .int)) (by decide) rfl (Nat.le_of_ble_eq_true rfl) ?_ sz
  intro p e s m args below meth c A Q hA hQ F E hr hlk hin
  show zW p l e { frames := 0, cells := 0, slots := 0, locals := 0 } s m args below meth c 3 D A Q 0 0 [] [(0, .int v), (1, .int n)] [] 0
  refine z_iload_n F 0 dL_some_0 rfl rfl ?_
  refine z_iload_n F 1 dL_some_1 rfl rfl ?_
  refine z_irem F dL_some_2 (hn) ?_
  refine z_istore_n (lv' := [(2, .int (v - v / n * n)), (0, .int v), (1, .int n)]) F dL_some_3 rfl (by decide) rfl ?_
  refine z_iload_n F 0 dL_some_4 rfl rfl ?_
  refine z_if_ge (tgt := 14) F dL_some_5 (by decide) (fun c1 => ?_) (fun c1 => ?_)
  · refine z_iload_n F 0 dL_some_14 rfl rfl ?_
    exact z_iret F hA hQ hlk hr () (by simp only [f_some, if_pos c1]) (rfl) dL_some_15
  · refine z_iload_n F 0 dL_some_8 rfl rfl ?_
    refine z_iload_n F 2 dL_some_9 rfl rfl ?_
    refine z_iadd F dL_some_10 ?_
    refine z_goto (tgt := 15) F dL_some_11 (by decide) ?_
    exact z_iret F hA hQ hlk hr () (by simp only [f_some, if_neg c1]) (rfl) dL_some_15
