/-! THE JDK'S STRINGS THAT ARE MADE -/
theorem z_minR {a b : Nat} (h : b ≤ a) (ha : a < 2147483648) : z_min (nI a) (nI b) = nI b := by
  unfold z_min
  by_cases q : nI b < nI a
  · rw [if_pos q]
  · rw [if_neg q]
    have : a = b := Nat.le_antisymm (Nat.le_of_not_lt (fun h2 => q (nI_lt h2 ha))) h
    rw [this]
theorem z_sub0 (x : Int32) : x - 0 = x := by simp
section ZJ4
variable {p : Program} {l : Launch} {e : Env} {R : Room} {s : State} {m : MethodId} {args : Array Value} {below : List Frame} {meth : Method} {c : Code} {cells slots : Nat} {Q : State → Prop}
variable {cc : ByteArray} {nL : Nat} {own : String} {Ts : List Cond} {D : va_G} {tys : List (ClassId × FieldType)} {A : Nat → Prop} {wr ws : va_W} {lv : List (Nat × Value)} {st : List Value} {pc : Nat} {H : Heap} {locs : List Loc}
theorem z_eretA (F : zF p s m args meth c cc nL own Ts D tys A wr) {S : Type} {ad : Nat → Nat} {post : Option Nat → S → Prop} {ww : va_W} {ww' : S → va_W} (hA : A = va_A ww s.heap.size) (hQ : Q = MQ below (zQe ad D ww post ww' s.heap.size) args s cells slots (va_A ww s.heap.size)) (hlk : meth.locks = false) {t9 : FieldType} (hr : meth.sig.returnType = some (.array t9)) {v : Option Nat} {x : Value} (hx : x = va_re ad v) (u : S) (hp : post v u) (hw : ws = ww' u) (d : decode cc pc = .ok (.areturn, 1)) : zW p l e R s m args below meth c nL D A Q cells slots ws lv (x :: []) pc := fun H locs ls hP hD hS hl => by subst hA; subst hQ; subst hx; exact W.aret (v := va_re ad v) F.1.1 F.1.2.1 hr (Or.inr ⟨t9, rfl⟩) (va_re_or ad v) (fun t ht hW => ⟨⟨v, u, rfl, hp, by rw [ht, ← hw]; exact hP, by rw [← hw]; exact hD⟩, hS.F ht⟩) hS.2.2 d hlk
/-- a constant's bytes are copied -/
theorem z_copyT (F : zF p s m args meth c cc nL own Ts D tys A wr) {index : Nat} (h1 : Cond.methodLink own index arraycopyName ∈ Ts) (h2 : Cond.native arraycopyName ∈ Ts) (h3 : Cond.static arraycopyName ∈ Ts) (h4 : Cond.initialized "java/lang/System" ∈ Ts) (q1 t1 : Nat) {a0 a : Nat} {c1 : ClassId} {N0 N1 : Nat} {f g0 : Nat → Int8} (hX : va_T .byte a0 N0 (fun k => .int (zBy f k)) A s s.heap) (ha1 : ws[q1]? = some (a, .inl (c1, N1, .inl (zBy g0)))) (ht1 : tys[t1]? = some (c1, .byte)) {sp dp n : Int32} (i j k9 : Nat) (hsp : sp = nI i) (hdp : dp = nI j) (hn : n = nI k9) (hi : i + k9 ≤ N0) (hj : j + k9 ≤ N1) (hb0 : N0 < 2147483648) (hb1 : N1 < 2147483648) {ws' : va_W} (hw : ws.set q1 (a, .inl (c1, N1, .inl (zBy (va_cpy f g0 i j k9)))) = ws') (hf : 1 ≤ R.frames) (hlo : (st.map fun v => v.category).sum + (nativeFrameWords "java/lang/System" "arraycopy" 5 + 11) ≤ R.locals) (d : decode cc pc = .ok (.invokestatic index, 3)) (k : zW p l e R s m args below meth c nL D A Q cells slots ws' lv st (pc + 3)) : zW p l e R s m args below meth c nL D A Q cells slots ws lv (.int n :: .int dp :: .ref a :: .int sp :: .ref a0 :: st) pc := fun H locs ls hP hD hS hl => by
  subst hsp; subst hdp; subst hn
  have e0 := nI_clamp (show i < 2147483648 by omega)
  have e1 := nI_clamp (show j < 2147483648 by omega)
  have e2 := nI_clamp (show k9 < 2147483648 by omega)
  refine vk_copyt F.1.1 F.1.2.1 (F.1.2.2.1.trans hl.1.symm) F.1.2.2.2.1 (F.1.2.2.2.2 _ h1) (F.1.2.2.2.2 _ h2) (F.1.2.2.2.2 _ h3) (F.1.2.2.2.2 _ h4) F.2.1 hP hD hS hX q1 t1 ha1 ht1 (nI_pos (by omega)) (nI_pos (by omega)) (nI_pos (by omega)) (by rw [e0, e2]; exact hi) (by rw [e1, e2]; exact hj) (fun x _ => z_fb f _) hf hlo d (fun H1 locs1 hP1 hD1 hS1 => ?_)
  rw [e0, e1, e2, z_cpB] at hP1 hD1
  exact k H1 locs1 ls (hw ▸ hP1) (hw ▸ hD1) hS1 hl
end ZJ4
set_option maxHeartbeats 4000000 in
set_option maxRecDepth 100000 in
theorem k_J5_inflateIfNeededFor_a7421 (l : Launch) (D : va_G) (g : Nat → ClassId) (dg : Nat → Nat) (fs : Nat → Nat) (fv : Nat → Nat) (ti : Nat) (b0 : Nat) (b1 : Nat) (ml : Int32) (bn : Nat) (ht9 : ti < 14) (sz : Nat) : Met l yJ5_inflateIfNeededFor_a7421 wsJ5_inflateIfNeededFor_a7421 { frames := 1, cells := 0, slots := 0, locals := 20 } (zPc D (gT g) (zJk D g dg fs fv) [.ref b0, .ref (fs ti)] [] [(b0, .inr (1, [.ref b1, .int 0, .int ml, .int (nI bn)]))] sz) (zQv D [] (fun (_ : Unit) => True) (fun _ => []) sz) 0 0 (va_A [] sz) := by
  refine z_met (y := yJ5_inflateIfNeededFor_a7421) (cc := cJ5_inflateIfNeededFor_a7421) (nL := 2) (rm := { frames := 1, cells := 0, slots := 0, locals := 20 }) (D := D) (tys := gT g) (wr := [(b0, .inr (1, [.ref b1, .int 0, .int ml, .int (nI bn)]))]) (P0 := zJk D g dg fs fv) (As := [.ref b0, .ref (fs ti)]) (ww := []) (Qc := zQv D [] (fun (_ : Unit) => True) (fun _ => [])) (ret := none) (by decide) rfl (Nat.le_of_ble_eq_true rfl) ?_ sz
  intro p e s m args below meth c A Q hA hQ F E hr hlk hin
  show zW p l e { frames := 1, cells := 0, slots := 0, locals := 20 } s m args below meth c 2 D A Q 0 0 [] [(0, .ref b0), (1, .ref (fs ti))] [] 0
  refine z_gets F E.1.1 (List.mem_cons_of_mem _ (List.mem_append_left _ (List.mem_append_left _ (List.mem_append_left _ (List.mem_of_getElem? (i := 0) rfl))))) dJ5_inflateIfNeededFor_a7421_0 ?_
  refine z_if_eq (tgt := 21) F dJ5_inflateIfNeededFor_a7421_3 (by decide) (fun c1 => ?_) (fun c1 => ?_)
  · exact absurd c1 (by decide)
  · refine z_aload_n F 0 dJ5_inflateIfNeededFor_a7421_6 rfl rfl ?_
    refine z_get (C := RJ4) (T := TJ4) (N := 4) F (fun w h => List.mem_cons_of_mem _ (List.mem_append_left _ (List.mem_append_right _ (h)))) 0 rfl rfl 1 (by decide) (List.mem_cons_of_mem _ (List.mem_append_left _ (List.mem_append_left _ (List.mem_append_left _ (List.mem_of_getElem? (i := 1) rfl))))) rfl rfl dJ5_inflateIfNeededFor_a7421_7 ?_
    refine z_aload_n F 1 dJ5_inflateIfNeededFor_a7421_10 rfl rfl ?_
    refine z_calli0 F (z_runVK (st := [.int 0]) F ((zJk_ok D g dg fs fv)) E (fun sz => k_J0_coder_7d493 l D g dg fs fv ti (by omega) sz) (cwV 0 F.1.2.2.2.2 gJ5_inflateIfNeededFor_a7421_J0_coder_7d493 rfl rfl rfl (by decide +kernel) ⟨Nat.le_of_ble_eq_true rfl, Nat.le_of_ble_eq_true rfl⟩) (E.2 ti ht9).1 [] [] rfl rfl (by decide) rfl rfl (Nat.le_of_ble_eq_true rfl) dJ5_inflateIfNeededFor_a7421_11 ⟨Nat.le_of_ble_eq_true rfl, Nat.le_of_ble_eq_true rfl⟩) (fun r3 _ hw2 => ?_)
    subst hw2
    refine z_icmp_eq (tgt := 21) F dJ5_inflateIfNeededFor_a7421_14 (by decide) (fun c4 => ?_) (fun c4 => ?_)
    · exact z_vret F hA hQ hlk hr () (trivial) (rfl) dJ5_inflateIfNeededFor_a7421_21
    · exact absurd (by decide) c4
set_option maxHeartbeats 4000000 in
set_option maxRecDepth 100000 in
theorem k_J0_getBytes_840e7 (l : Launch) (D : va_G) (g : Nat → ClassId) (dg : Nat → Nat) (fs : Nat → Nat) (fv : Nat → Nat) (ti : Nat) (b1 : Nat) (bc : Nat) (bp : Nat → Int8) (ix : Nat) (ht9 : ti < 14) (hix : ix + f_fl ti ≤ bc) (hb3 : bc ≤ 300) (sz : Nat) : Met l yJ0_getBytes_840e7 wsJ0_getBytes_840e7 { frames := 1, cells := 0, slots := 0, locals := 20 } (zPc D (gT g) (zJk D g dg fs fv) [.ref (fs ti), .ref b1, .int (nI ix), .int 0] [(b1, .inl (g 3, bc, .inl ((zBy bp))))] [] sz) (zQv D [(b1, .inl (g 3, bc, .inl ((zBy bp))))] (fun (_ : Nat → Int8) => True) (fun (u9 : Nat → Int8) => [(b1, .inl (g 3, bc, .inl ((zBy u9))))]) sz) 0 0 (va_A [(b1, .inl (g 3, bc, .inl ((zBy bp))))] sz) := by
  refine z_met (y := yJ0_getBytes_840e7) (cc := cJ0_getBytes_840e7) (nL := 4) (rm := { frames := 1, cells := 0, slots := 0, locals := 20 }) (D := D) (tys := gT g) (wr := []) (P0 := zJk D g dg fs fv) (As := [.ref (fs ti), .ref b1, .int (nI ix), .int 0]) (ww := [(b1, .inl (g 3, bc, .inl ((zBy bp))))]) (Qc := zQv D [(b1, .inl (g 3, bc, .inl ((zBy bp))))] (fun (_ : Nat → Int8) => True) (fun (u9 : Nat → Int8) => [(b1, .inl (g 3, bc, .inl ((zBy u9))))])) (ret := none) (by decide) rfl (Nat.le_of_ble_eq_true rfl) ?_ sz
  intro p e s m args below meth c A Q hA hQ F E hr hlk hin
  have hn3 := f_fl_le ti
  show zW p l e { frames := 1, cells := 0, slots := 0, locals := 20 } s m args below meth c 4 D A Q 0 0 [(b1, .inl (g 3, bc, .inl ((zBy bp))))] [(0, .ref (fs ti)), (1, .ref b1), (2, .int (nI ix)), (3, .int 0)] [] 0
  refine z_aload_n F 0 dJ0_getBytes_840e7_0 rfl rfl ?_
  refine z_calli0 F (z_runVK (st := []) F ((zJk_ok D g dg fs fv)) E (fun sz => k_J0_coder_7d493 l D g dg fs fv ti (by omega) sz) (cwV 0 F.1.2.2.2.2 gJ0_getBytes_840e7_J0_coder_7d493 rfl rfl rfl (by decide +kernel) ⟨Nat.le_of_ble_eq_true rfl, Nat.le_of_ble_eq_true rfl⟩) (E.2 ti ht9).1 [] [] rfl rfl (by decide) rfl rfl (Nat.le_of_ble_eq_true rfl) dJ0_getBytes_840e7_1 ⟨Nat.le_of_ble_eq_true rfl, Nat.le_of_ble_eq_true rfl⟩) (fun r2 _ hw1 => ?_)
  subst hw1
  refine z_iload_n F 3 dJ0_getBytes_840e7_4 rfl rfl ?_
  refine z_icmp_ne (tgt := 28) F dJ0_getBytes_840e7_5 (by decide) (fun c3 => ?_) (fun c3 => ?_)
  · exact absurd (by decide) c3
  · refine z_aload_n F 0 dJ0_getBytes_840e7_8 rfl rfl ?_
    refine z_getK F (E.2 ti ht9).2.2.1 (List.mem_cons_of_mem _ (List.mem_append_left _ (List.mem_append_left _ (List.mem_of_getElem? (i := 0) rfl)))) dJ0_getBytes_840e7_9 ?_
    refine z_iconst (v := 0) F dJ0_getBytes_840e7_12 (by decide) ?_
    refine z_aload_n F 1 dJ0_getBytes_840e7_13 rfl rfl ?_
    refine z_iload_n F 2 dJ0_getBytes_840e7_14 rfl rfl ?_
    refine z_iload_n F 3 dJ0_getBytes_840e7_15 rfl rfl ?_
    refine z_ishl F dJ0_getBytes_840e7_16 ?_
    refine z_top (y := nI ix) (z_shl0 _) ?_
    refine z_aload_n F 0 dJ0_getBytes_840e7_17 rfl rfl ?_
    refine z_getK F (E.2 ti ht9).2.2.1 (List.mem_cons_of_mem _ (List.mem_append_left _ (List.mem_append_left _ (List.mem_of_getElem? (i := 0) rfl)))) dJ0_getBytes_840e7_18 ?_
    refine z_alenT F (E.2 ti ht9).2.2.2 dJ0_getBytes_840e7_21 ?_
    refine z_copyT (ws' := [(b1, .inl (g 3, bc, .inl ((zBy (va_cpy (f_fb ti) bp 0 ix (f_fl ti))))))]) F (List.mem_cons_of_mem _ (List.mem_append_left _ (List.mem_append_left _ (List.mem_of_getElem? (i := 1) rfl)))) (List.mem_cons_of_mem _ (List.mem_append_left _ (List.mem_append_left _ (List.mem_of_getElem? (i := 2) rfl)))) (List.mem_cons_of_mem _ (List.mem_append_left _ (List.mem_append_left _ (List.mem_of_getElem? (i := 3) rfl)))) (List.mem_cons_of_mem _ (List.mem_append_left _ (List.mem_append_left _ (List.mem_of_getElem? (i := 4) rfl)))) 0 3 (E.2 ti ht9).2.2.2 rfl rfl 0 ix (f_fl ti) rfl rfl rfl (by omega) (by omega) (by omega) (by omega) rfl (Nat.le_of_ble_eq_true rfl) (Nat.le_of_ble_eq_true rfl) dJ0_getBytes_840e7_22 ?_
    refine z_goto (tgt := 43) F dJ0_getBytes_840e7_25 (by decide) ?_
    exact z_vret F hA hQ hlk hr (va_cpy (f_fb ti) bp 0 ix (f_fl ti)) (trivial) (rfl) dJ0_getBytes_840e7_43
set_option maxHeartbeats 4000000 in
set_option maxRecDepth 100000 in
theorem k_J5_putStringAt_47b60 (l : Launch) (D : va_G) (g : Nat → ClassId) (dg : Nat → Nat) (fs : Nat → Nat) (fv : Nat → Nat) (ti : Nat) (b0 : Nat) (b1 : Nat) (ml : Int32) (bn : Nat) (bc : Nat) (bp : Nat → Int8) (ix : Nat) (ht9 : ti < 14) (hix : ix + f_fl ti ≤ bc) (hb3 : bc ≤ 300) (sz : Nat) : Met l yJ5_putStringAt_47b60 wsJ5_putStringAt_47b60 { frames := 2, cells := 0, slots := 0, locals := 43 } (zPc D (gT g) (zJk D g dg fs fv) [.ref b0, .int (nI ix), .ref (fs ti)] [(b1, .inl (g 3, bc, .inl ((zBy bp))))] [(b0, .inr (1, [.ref b1, .int 0, .int ml, .int (nI bn)]))] sz) (zQv D [(b1, .inl (g 3, bc, .inl ((zBy bp))))] (fun (_ : Nat → Int8) => True) (fun (u9 : Nat → Int8) => [(b1, .inl (g 3, bc, .inl ((zBy u9))))]) sz) 0 0 (va_A [(b1, .inl (g 3, bc, .inl ((zBy bp))))] sz) := by
  refine z_met (y := yJ5_putStringAt_47b60) (cc := cJ5_putStringAt_47b60) (nL := 3) (rm := { frames := 2, cells := 0, slots := 0, locals := 43 }) (D := D) (tys := gT g) (wr := [(b0, .inr (1, [.ref b1, .int 0, .int ml, .int (nI bn)]))]) (P0 := zJk D g dg fs fv) (As := [.ref b0, .int (nI ix), .ref (fs ti)]) (ww := [(b1, .inl (g 3, bc, .inl ((zBy bp))))]) (Qc := zQv D [(b1, .inl (g 3, bc, .inl ((zBy bp))))] (fun (_ : Nat → Int8) => True) (fun (u9 : Nat → Int8) => [(b1, .inl (g 3, bc, .inl ((zBy u9))))])) (ret := none) (by decide) rfl (Nat.le_of_ble_eq_true rfl) ?_ sz
  intro p e s m args below meth c A Q hA hQ F E hr hlk hin
  have hn3 := f_fl_le ti
  show zW p l e { frames := 2, cells := 0, slots := 0, locals := 43 } s m args below meth c 3 D A Q 0 0 [(b1, .inl (g 3, bc, .inl ((zBy bp))))] [(0, .ref b0), (1, .int (nI ix)), (2, .ref (fs ti))] [] 0
  refine z_aload_n F 0 dJ5_putStringAt_47b60_0 rfl rfl ?_
  refine z_aload_n F 2 dJ5_putStringAt_47b60_1 rfl rfl ?_
  refine z_callv0 F (z_runU (st := []) F ((zJk_ok D g dg fs fv)) E (fun sz => k_J5_inflateIfNeededFor_a7421 l D g dg fs fv ti b0 b1 ml bn (by omega) sz) (va_cwU 1 F.1.2.2.2.2 gJ5_putStringAt_47b60_J5_inflateIfNeededFor_a7421_u397J4 rfl rfl rfl rfl (by decide +kernel) ⟨Nat.le_of_ble_eq_true rfl, Nat.le_of_ble_eq_true rfl⟩) 1 rfl rfl rfl [] [1] rfl rfl (by decide) rfl rfl (Nat.le_of_ble_eq_true rfl) dJ5_putStringAt_47b60_2 ⟨Nat.le_of_ble_eq_true rfl, Nat.le_of_ble_eq_true rfl⟩) (fun _ hw1 => ?_)
  clear hw1
  refine z_aload_n F 2 dJ5_putStringAt_47b60_5 rfl rfl ?_
  refine z_aload_n F 0 dJ5_putStringAt_47b60_6 rfl rfl ?_
  refine z_get (C := RJ4) (T := TJ4) (N := 4) F (fun w h => List.mem_cons_of_mem _ (List.mem_append_left _ (List.mem_append_right _ (h)))) 1 rfl rfl 0 (by decide) (List.mem_cons_of_mem _ (List.mem_append_left _ (List.mem_append_left _ (List.mem_append_left _ (List.mem_of_getElem? (i := 0) rfl))))) rfl rfl dJ5_putStringAt_47b60_7 ?_
  refine z_iload_n F 1 dJ5_putStringAt_47b60_10 rfl rfl ?_
  refine z_aload_n F 0 dJ5_putStringAt_47b60_11 rfl rfl ?_
  refine z_get (C := RJ4) (T := TJ4) (N := 4) F (fun w h => List.mem_cons_of_mem _ (List.mem_append_left _ (List.mem_append_right _ (h)))) 1 rfl rfl 1 (by decide) (List.mem_cons_of_mem _ (List.mem_append_left _ (List.mem_append_left _ (List.mem_append_left _ (List.mem_of_getElem? (i := 1) rfl))))) rfl rfl dJ5_putStringAt_47b60_12 ?_
  refine z_callv (wn := []) (wf := fun u3 => [(b1, .inl (g 3, bc, .inl ((zBy u3))))]) F (z_runVK (st := []) F ((zJk_ok D g dg fs fv)) E (fun sz => k_J0_getBytes_840e7 l D g dg fs fv ti b1 bc bp ix (by omega) (hix) (hb3) sz) (cwV 3 F.1.2.2.2.2 gJ5_putStringAt_47b60_J0_getBytes_840e7 rfl rfl rfl (by decide +kernel) ⟨Nat.le_of_ble_eq_true rfl, Nat.le_of_ble_eq_true rfl⟩) (E.2 ti ht9).1 [0] [] rfl rfl (by decide) rfl rfl (Nat.le_of_ble_eq_true rfl) dJ5_putStringAt_47b60_15 ⟨Nat.le_of_ble_eq_true rfl, Nat.le_of_ble_eq_true rfl⟩) [0] [] [0] rfl rfl (by decide) (by decide) (by decide) (fun _ => rfl) (fun u3 hw2 => ?_)
  clear hw2
  exact z_vret F hA hQ hlk hr (u3) (trivial) (rfl) dJ5_putStringAt_47b60_18
set_option maxHeartbeats 4000000 in
set_option maxRecDepth 100000 in
theorem k_J5_append_cf1ce (l : Launch) (D : va_G) (g : Nat → ClassId) (dg : Nat → Nat) (fs : Nat → Nat) (fv : Nat → Nat) (ti : Nat) (b0 : Nat) (b1 : Nat) (ml : Int32) (bn : Nat) (bc : Nat) (bp : Nat → Int8) (ht9 : ti < 14) (hbc : bn ≤ bc) (hb3 : bc ≤ 300) (hs15 : bn + f_fl ti ≤ 140) (sz : Nat) : Met l yJ5_append_cf1ce wsJ5_append_cf1ce { frames := 4, cells := 1, slots := 300, locals := 84 } (zPc D (gT g) (zJk D g dg fs fv) [.ref b0, .ref (fs ti)] [(b0, .inr (1, [.ref b1, .int 0, .int ml, .int (nI bn)])), (b1, .inl (g 3, bc, .inl ((zBy bp))))] [] sz) (zQe (fun _ => b0) D [(b0, .inr (1, [.ref b1, .int 0, .int ml, .int (nI bn)])), (b1, .inl (g 3, bc, .inl ((zBy bp))))] (fun (r : Option Nat) (u : Nat × Nat × (Nat → Int8)) => r = some 0 ∧ bn + f_fl ti ≤ u.2.1 ∧ u.2.1 ≤ 300 ∧ (u.2.1 = bc ∨ 2 * bc + 2 ≤ u.2.1)) (fun (u9 : Nat × Nat × (Nat → Int8)) => [(b0, .inr (1, [.ref u9.1, .int 0, .int ml, .int (nI (bn + f_fl ti))])), (u9.1, .inl (g 3, u9.2.1, .inl ((zBy u9.2.2))))]) sz) 1 300 (va_A [(b0, .inr (1, [.ref b1, .int 0, .int ml, .int (nI bn)])), (b1, .inl (g 3, bc, .inl ((zBy bp))))] sz) := by
  refine z_met (y := yJ5_append_cf1ce) (cc := cJ5_append_cf1ce) (nL := 3) (rm := { frames := 4, cells := 1, slots := 300, locals := 84 }) (D := D) (tys := gT g) (wr := []) (P0 := zJk D g dg fs fv) (As := [.ref b0, .ref (fs ti)]) (ww := [(b0, .inr (1, [.ref b1, .int 0, .int ml, .int (nI bn)])), (b1, .inl (g 3, bc, .inl ((zBy bp))))]) (Qc := zQe (fun _ => b0) D [(b0, .inr (1, [.ref b1, .int 0, .int ml, .int (nI bn)])), (b1, .inl (g 3, bc, .inl ((zBy bp))))] (fun (r : Option Nat) (u : Nat × Nat × (Nat → Int8)) => r = some 0 ∧ bn + f_fl ti ≤ u.2.1 ∧ u.2.1 ≤ 300 ∧ (u.2.1 = bc ∨ 2 * bc + 2 ≤ u.2.1)) (fun (u9 : Nat × Nat × (Nat → Int8)) => [(b0, .inr (1, [.ref u9.1, .int 0, .int ml, .int (nI (bn + f_fl ti))])), (u9.1, .inl (g 3, u9.2.1, .inl ((zBy u9.2.2))))])) (ret := (some (.object "java/lang/AbstractStringBuilder"))) (by decide) rfl (Nat.le_of_ble_eq_true rfl) ?_ sz
  intro p e s m args below meth c A Q hA hQ F E hr hlk hin
  have hn3 := f_fl_le ti
  show zW p l e { frames := 4, cells := 1, slots := 300, locals := 84 } s m args below meth c 3 D A Q 0 0 [(b0, .inr (1, [.ref b1, .int 0, .int ml, .int (nI bn)])), (b1, .inl (g 3, bc, .inl ((zBy bp))))] [(0, .ref b0), (1, .ref (fs ti))] [] 0
  refine z_aload_n F 1 dJ5_append_cf1ce_0 rfl rfl ?_
  refine z_ifnn (tgt := 9) F dJ5_append_cf1ce_1 (by decide) ?_
  refine z_aload_n F 1 dJ5_append_cf1ce_9 rfl rfl ?_
  refine z_calli0 F (z_runVK (st := []) F ((zJk_ok D g dg fs fv)) E (fun sz => k_J0_length_8abf5 l D g dg fs fv ti (by omega) sz) (cwV 0 F.1.2.2.2.2 gJ5_append_cf1ce_J0_length_8abf5 rfl rfl rfl (by decide +kernel) ⟨Nat.le_of_ble_eq_true rfl, Nat.le_of_ble_eq_true rfl⟩) (E.2 ti ht9).1 [] [] rfl rfl (by decide) rfl rfl (Nat.le_of_ble_eq_true rfl) dJ5_append_cf1ce_10 ⟨Nat.le_of_ble_eq_true rfl, Nat.le_of_ble_eq_true rfl⟩) (fun r2 _ hw1 => ?_)
  subst hw1
  refine z_istore_n (lv' := [(2, .int (nI (f_fl ti))), (0, .ref b0), (1, .ref (fs ti))]) F dJ5_append_cf1ce_13 rfl (by decide) rfl ?_
  refine z_aload_n F 1 dJ5_append_cf1ce_14 rfl rfl ?_
  refine z_aload_n F 1 dJ5_append_cf1ce_15 rfl rfl ?_
  refine z_get (C := RJ4) (T := TJ4) (N := 4) F (fun w h => List.mem_cons_of_mem _ (List.mem_append_left _ (List.mem_append_right _ (h)))) 0 rfl rfl 3 (by decide) (List.mem_cons_of_mem _ (List.mem_append_left _ (List.mem_append_left _ (List.mem_append_left _ (List.mem_of_getElem? (i := 0) rfl))))) rfl rfl dJ5_append_cf1ce_16 ?_
  refine z_iload_n F 0 dJ5_append_cf1ce_19 rfl rfl ?_
  refine z_iadd F dJ5_append_cf1ce_20 ?_
  refine z_top (y := nI (bn + f_fl ti)) (nI_add _ _) ?_
  refine z_callv (wn := []) (wf := fun u4 => [(b0, .inr (1, [.ref u4.1, .int 0, .int ml, .int (nI bn)])), (u4.1, .inl (g 3, u4.2.1, .inl ((zBy u4.2.2))))]) F (z_runU (st := []) F zNo_ok trivial (fun sz => c_J5_ensureCapacityInternal_d00df l D g b0 b1 ml bn bc bp (bn + f_fl ti) (hb3) (by omega) sz) (va_cwU 1 F.1.2.2.2.2 gJ5_append_cf1ce_J5_ensureCapacityInternal_d00df_u100J4 rfl rfl rfl rfl (by decide +kernel) ⟨Nat.le_of_ble_eq_true rfl, Nat.le_of_ble_eq_true rfl⟩) 0 rfl rfl rfl [0, 1] [] rfl rfl (by decide) rfl rfl (Nat.le_of_ble_eq_true rfl) dJ5_append_cf1ce_21 ⟨Nat.le_of_ble_eq_true rfl, Nat.le_of_ble_eq_true rfl⟩) [0, 1] [] [0, 1] rfl rfl (by decide) (by decide) (by decide) (fun _ => rfl) (fun u4 hw3 => ?_)
  obtain ⟨b9_21, c9_21, f9_21⟩ := u4
  obtain ⟨hm9_21, hbc9_21, hc3_21, hsame_21, hcap_21⟩ := hw3
  try dsimp only at hm9_21
  try dsimp only at hbc9_21
  try dsimp only at hc3_21
  try dsimp only at hsame_21
  try dsimp only at hcap_21
  refine z_aload_n F 1 dJ5_append_cf1ce_24 rfl rfl ?_
  refine z_aload_n F 1 dJ5_append_cf1ce_25 rfl rfl ?_
  refine z_get (C := RJ4) (T := TJ4) (N := 4) F (fun w h => List.mem_cons_of_mem _ (List.mem_append_left _ (List.mem_append_right _ (h)))) 0 rfl rfl 3 (by decide) (List.mem_cons_of_mem _ (List.mem_append_left _ (List.mem_append_left _ (List.mem_append_left _ (List.mem_of_getElem? (i := 0) rfl))))) rfl rfl dJ5_append_cf1ce_26 ?_
  refine z_aload_n F 2 dJ5_append_cf1ce_29 rfl rfl ?_
  refine z_callv (wn := [(b0, .inr (1, [.ref b9_21, .int 0, .int ml, .int (nI bn)]))]) (wf := fun u6 => [(b0, .inr (1, [.ref b9_21, .int 0, .int ml, .int (nI bn)])), (b9_21, .inl (g 3, c9_21, .inl ((zBy u6))))]) F (z_runU (st := []) F ((zJk_ok D g dg fs fv)) E (fun sz => k_J5_putStringAt_47b60 l D g dg fs fv ti b0 b9_21 ml bn c9_21 f9_21 bn (by omega) (hm9_21) (hc3_21) sz) (va_cwU 2 F.1.2.2.2.2 gJ5_append_cf1ce_J5_putStringAt_47b60_u208J4 rfl rfl rfl rfl (by decide +kernel) ⟨Nat.le_of_ble_eq_true rfl, Nat.le_of_ble_eq_true rfl⟩) 0 rfl rfl rfl [1] [0] rfl rfl (by decide) rfl rfl (Nat.le_of_ble_eq_true rfl) dJ5_append_cf1ce_30 ⟨Nat.le_of_ble_eq_true rfl, Nat.le_of_ble_eq_true rfl⟩) [1] [0] [0, 1] rfl rfl (by decide) (by decide) (by decide) (fun _ => rfl) (fun u6 hw5 => ?_)
  clear hw5
  refine z_aload_n F 1 dJ5_append_cf1ce_33 rfl rfl ?_
  refine z_dup F dJ5_append_cf1ce_34 rfl ?_
  refine z_get (C := RJ4) (T := TJ4) (N := 4) F (fun w h => List.mem_cons_of_mem _ (List.mem_append_left _ (List.mem_append_right _ (h)))) 0 rfl rfl 3 (by decide) (List.mem_cons_of_mem _ (List.mem_append_left _ (List.mem_append_left _ (List.mem_append_left _ (List.mem_of_getElem? (i := 0) rfl))))) rfl rfl dJ5_append_cf1ce_35 ?_
  refine z_iload_n F 0 dJ5_append_cf1ce_38 rfl rfl ?_
  refine z_iadd F dJ5_append_cf1ce_39 ?_
  refine z_top (y := nI (bn + f_fl ti)) (nI_add _ _) ?_
  refine z_put (C := RJ4) (T := TJ4) (N := 4) (ty := .int) (ws' := [(b0, .inr (1, [.ref b9_21, .int 0, .int ml, .int (nI (bn + f_fl ti))])), (b9_21, .inl (g 3, c9_21, .inl ((zBy u6))))]) F (fun w h => List.mem_cons_of_mem _ (List.mem_append_left _ (List.mem_append_right _ (h)))) tyJ4 tyJ4_ok nmJ4 0 rfl rfl 3 (by decide) (List.mem_cons_of_mem _ (List.mem_append_left _ (List.mem_append_left _ (List.mem_append_left _ (List.mem_of_getElem? (i := 0) rfl))))) rfl rfl (by decide +kernel) (rfl) (rfl) (Nat.le_of_ble_eq_true rfl) rfl dJ5_append_cf1ce_40 ?_
  refine z_aload_n F 1 dJ5_append_cf1ce_43 rfl rfl ?_
  refine z_wide (k := 1) (n := 300) (Nat.le_of_ble_eq_true rfl) (Nat.le_of_ble_eq_true rfl) ?_
  exact z_eret F hA hQ hlk hr (v := some 0) rfl (b9_21, c9_21, u6) (⟨rfl, by dsimp only; omega, by dsimp only; omega, hcap_21⟩) (rfl) dJ5_append_cf1ce_44
set_option maxHeartbeats 4000000 in
set_option maxRecDepth 100000 in
theorem k_J4_append_15ec4 (l : Launch) (D : va_G) (g : Nat → ClassId) (dg : Nat → Nat) (fs : Nat → Nat) (fv : Nat → Nat) (ti : Nat) (b0 : Nat) (b1 : Nat) (ml : Int32) (bn : Nat) (bc : Nat) (bp : Nat → Int8) (ht9 : ti < 14) (hbc : bn ≤ bc) (hb3 : bc ≤ 300) (hs15 : bn + f_fl ti ≤ 140) (sz : Nat) : Met l yJ4_append_15ec4 wsJ4_append_15ec4 { frames := 5, cells := 1, slots := 300, locals := 106 } (zPc D (gT g) (zJk D g dg fs fv) [.ref b0, .ref (fs ti)] [(b0, .inr (1, [.ref b1, .int 0, .int ml, .int (nI bn)])), (b1, .inl (g 3, bc, .inl ((zBy bp))))] [] sz) (zQe (fun _ => b0) D [(b0, .inr (1, [.ref b1, .int 0, .int ml, .int (nI bn)])), (b1, .inl (g 3, bc, .inl ((zBy bp))))] (fun (r : Option Nat) (u : Nat × Nat × (Nat → Int8)) => r = some 0 ∧ bn + f_fl ti ≤ u.2.1 ∧ u.2.1 ≤ 300 ∧ (u.2.1 = bc ∨ 2 * bc + 2 ≤ u.2.1)) (fun (u9 : Nat × Nat × (Nat → Int8)) => [(b0, .inr (1, [.ref u9.1, .int 0, .int ml, .int (nI (bn + f_fl ti))])), (u9.1, .inl (g 3, u9.2.1, .inl ((zBy u9.2.2))))]) sz) 1 300 (va_A [(b0, .inr (1, [.ref b1, .int 0, .int ml, .int (nI bn)])), (b1, .inl (g 3, bc, .inl ((zBy bp))))] sz) := by
  refine z_met (y := yJ4_append_15ec4) (cc := cJ4_append_15ec4) (nL := 2) (rm := { frames := 5, cells := 1, slots := 300, locals := 106 }) (D := D) (tys := gT g) (wr := []) (P0 := zJk D g dg fs fv) (As := [.ref b0, .ref (fs ti)]) (ww := [(b0, .inr (1, [.ref b1, .int 0, .int ml, .int (nI bn)])), (b1, .inl (g 3, bc, .inl ((zBy bp))))]) (Qc := zQe (fun _ => b0) D [(b0, .inr (1, [.ref b1, .int 0, .int ml, .int (nI bn)])), (b1, .inl (g 3, bc, .inl ((zBy bp))))] (fun (r : Option Nat) (u : Nat × Nat × (Nat → Int8)) => r = some 0 ∧ bn + f_fl ti ≤ u.2.1 ∧ u.2.1 ≤ 300 ∧ (u.2.1 = bc ∨ 2 * bc + 2 ≤ u.2.1)) (fun (u9 : Nat × Nat × (Nat → Int8)) => [(b0, .inr (1, [.ref u9.1, .int 0, .int ml, .int (nI (bn + f_fl ti))])), (u9.1, .inl (g 3, u9.2.1, .inl ((zBy u9.2.2))))])) (ret := (some (.object "java/lang/StringBuilder"))) (by decide) rfl (Nat.le_of_ble_eq_true rfl) ?_ sz
  intro p e s m args below meth c A Q hA hQ F E hr hlk hin
  show zW p l e { frames := 5, cells := 1, slots := 300, locals := 106 } s m args below meth c 2 D A Q 0 0 [(b0, .inr (1, [.ref b1, .int 0, .int ml, .int (nI bn)])), (b1, .inl (g 3, bc, .inl ((zBy bp))))] [(0, .ref b0), (1, .ref (fs ti))] [] 0
  refine z_aload_n F 0 dJ4_append_15ec4_0 rfl rfl ?_
  refine z_aload_n F 1 dJ4_append_15ec4_1 rfl rfl ?_
  refine z_calle (wn := []) (wf := fun u2 => [(b0, .inr (1, [.ref u2.1, .int 0, .int ml, .int (nI (bn + f_fl ti))])), (u2.1, .inl (g 3, u2.2.1, .inl ((zBy u2.2.2))))]) F (z_runSU (st := []) F ((zJk_ok D g dg fs fv)) E (fun sz => k_J5_append_cf1ce l D g dg fs fv ti b0 b1 ml bn bc bp (by omega) (hbc) (hb3) (hs15) sz) (va_cwSU 1 F.1.2.2.2.2 gJ4_append_15ec4_J5_append_cf1ce_s29 rfl rfl rfl (by decide +kernel) ⟨Nat.le_of_ble_eq_true rfl, Nat.le_of_ble_eq_true rfl⟩) 0 rfl rfl rfl [0, 1] [] rfl rfl (by decide) rfl rfl (Nat.le_of_ble_eq_true rfl) dJ4_append_15ec4_2 ⟨Nat.le_of_ble_eq_true rfl, Nat.le_of_ble_eq_true rfl⟩) [0, 1] [] [0, 1] rfl rfl (by decide) (by decide) (by decide) (fun _ => rfl) (fun r3 u2 hw1 => ?_)
  obtain ⟨b9_2, c9_2, f9_2⟩ := u2
  obtain ⟨r2_, hcc_2, hc3_2, hcap_2⟩ := hw1
  try dsimp only at hcc_2
  try dsimp only at hc3_2
  try dsimp only at hcap_2
  subst r2_
  refine z_st (st' := [.ref b0]) rfl ?_
  refine z_pop F dJ4_append_15ec4_5 rfl ?_
  refine z_aload_n F 0 dJ4_append_15ec4_6 rfl rfl ?_
  refine z_wide (k := 1) (n := 300) (Nat.le_of_ble_eq_true rfl) (Nat.le_of_ble_eq_true rfl) ?_
  exact z_eret F hA hQ hlk hr (v := some 0) rfl (b9_2, c9_2, f9_2) (⟨rfl, hcc_2, hc3_2, hcap_2⟩) (rfl) dJ4_append_15ec4_7
set_option maxHeartbeats 4000000 in
set_option maxRecDepth 100000 in
theorem c_J7_checkLength_df160 (l : Launch) (D : va_G) (g : Nat → ClassId) (n : Nat) (hn3 : n ≤ 300) (sz : Nat) : Met l yJ7_checkLength_df160 wsJ7_checkLength_df160 { frames := 0, cells := 0, slots := 0, locals := 0 } (zPc D (gT g) zNo [.int 0, .int (nI n)] [] [] sz) (zQv D [] (fun (_ : Unit) => True) (fun _ => []) sz) 0 0 (va_A [] sz) := by
  refine z_met (y := yJ7_checkLength_df160) (cc := cJ7_checkLength_df160) (nL := 2) (rm := { frames := 0, cells := 0, slots := 0, locals := 0 }) (D := D) (tys := gT g) (wr := []) (P0 := zNo) (As := [.int 0, .int (nI n)]) (ww := []) (Qc := zQv D [] (fun (_ : Unit) => True) (fun _ => [])) (ret := none) (by decide) rfl (Nat.le_of_ble_eq_true rfl) ?_ sz
  intro p e s m args below meth c A Q hA hQ F E hr hlk hin
  show zW p l e { frames := 0, cells := 0, slots := 0, locals := 0 } s m args below meth c 2 D A Q 0 0 [] [(0, .int 0), (1, .int (nI n))] [] 0
  refine z_iload_n F 1 dJ7_checkLength_df160_0 rfl rfl ?_
  refine z_iload_n F 0 dJ7_checkLength_df160_1 rfl rfl ?_
  refine z_icmp_ge (tgt := 37) F dJ7_checkLength_df160_2 (by decide) (fun c1 => ?_) (fun c1 => ?_)
  · exact z_vret F hA hQ hlk hr () (trivial) (rfl) dJ7_checkLength_df160_37
  · exact absurd (nI_le (Nat.zero_le n) (by omega)) c1
set_option maxHeartbeats 4000000 in
set_option maxRecDepth 100000 in
theorem c_J7_copyOfRangeByte_39247 (l : Launch) (D : va_G) (g : Nat → ClassId) (b1 : Nat) (bc : Nat) (bp : Nat → Int8) (n : Nat) (hb3 : bc ≤ 300) (hn : n ≤ bc) (sz : Nat) : Met l yJ7_copyOfRangeByte_39247 wsJ7_copyOfRangeByte_39247 { frames := 1, cells := 1, slots := 300, locals := 21 } (zPc D (gT g) zNo [.ref b1, .int 0, .int (nI n)] [(b1, .inl (g 3, bc, .inl ((zBy bp))))] [] sz) (zQr D [(b1, .inl (g 3, bc, .inl ((zBy bp))))] (fun (_ : Nat → Int8) => True) (fun (u9 : Nat → Int8) (a9 : Nat) => [(b1, .inl (g 3, bc, .inl ((zBy bp)))), (a9, .inl (g 3, n, .inl ((zBy u9))))]) sz) 1 300 (va_A [(b1, .inl (g 3, bc, .inl ((zBy bp))))] sz) := by
  refine z_met (y := yJ7_copyOfRangeByte_39247) (cc := cJ7_copyOfRangeByte_39247) (nL := 5) (rm := { frames := 1, cells := 1, slots := 300, locals := 21 }) (D := D) (tys := gT g) (wr := []) (P0 := zNo) (As := [.ref b1, .int 0, .int (nI n)]) (ww := [(b1, .inl (g 3, bc, .inl ((zBy bp))))]) (Qc := zQr D [(b1, .inl (g 3, bc, .inl ((zBy bp))))] (fun (_ : Nat → Int8) => True) (fun (u9 : Nat → Int8) (a9 : Nat) => [(b1, .inl (g 3, bc, .inl ((zBy bp)))), (a9, .inl (g 3, n, .inl ((zBy u9))))])) (ret := (some (.array .byte))) (by decide) rfl (Nat.le_of_ble_eq_true rfl) ?_ sz
  intro p e s m args below meth c A Q hA hQ F E hr hlk hin
  show zW p l e { frames := 1, cells := 1, slots := 300, locals := 21 } s m args below meth c 5 D A Q 0 0 [(b1, .inl (g 3, bc, .inl ((zBy bp))))] [(0, .ref b1), (1, .int 0), (2, .int (nI n))] [] 0
  refine z_iload_n F 1 dJ7_copyOfRangeByte_39247_0 rfl rfl ?_
  refine z_iload_n F 2 dJ7_copyOfRangeByte_39247_1 rfl rfl ?_
  refine z_callv0 F (z_runS (st := []) F zNo_ok trivial (fun sz => c_J7_checkLength_df160 l D g n (by omega) sz) (va_cwS 2 F.1.2.2.2.2 gJ7_copyOfRangeByte_39247_J7_checkLength_df160 rfl rfl rfl (by decide +kernel) ⟨Nat.le_of_ble_eq_true rfl, Nat.le_of_ble_eq_true rfl⟩) [] [] rfl rfl (by decide) rfl rfl (Nat.le_of_ble_eq_true rfl) dJ7_copyOfRangeByte_39247_2 ⟨Nat.le_of_ble_eq_true rfl, Nat.le_of_ble_eq_true rfl⟩) (fun _ hw1 => ?_)
  clear hw1
  refine z_iload_n F 2 dJ7_copyOfRangeByte_39247_5 rfl rfl ?_
  refine z_iload_n F 1 dJ7_copyOfRangeByte_39247_6 rfl rfl ?_
  refine z_isub F dJ7_copyOfRangeByte_39247_7 ?_
  refine z_top (y := nI n) (z_sub0 _) ?_
  refine z_istore_n (lv' := [(3, .int (nI n)), (0, .ref b1), (1, .int 0), (2, .int (nI n))]) F dJ7_copyOfRangeByte_39247_8 rfl (by decide) rfl ?_
  refine z_iload_n F 0 dJ7_copyOfRangeByte_39247_9 rfl rfl ?_
  refine z_newaB (N := n) (wf := fun n2 => [(b1, .inl (g 3, bc, .inl ((zBy bp)))), (n2, .inl (g 3, n, .inl (fun _ => 0)))]) F (List.mem_cons_of_mem _ (List.mem_append_left _ (List.mem_of_getElem? (i := 0) rfl))) 3 rfl (nI_pos (by omega)) (nI_clamp (by omega)) (by omega) (by first | exact Nat.le_of_ble_eq_true rfl | (dsimp only; omega)) (by dsimp only; omega) (fun _ => rfl) dJ7_copyOfRangeByte_39247_10 (fun n2 => ?_)
  refine z_cext (f' := (zBy (fun _ => 0))) (ws' := [(b1, .inl (g 3, bc, .inl ((zBy bp)))), (n2, .inl (g 3, n, .inl ((zBy (fun _ => 0)))))]) 1 rfl (fun k _ => (by decide : (0 : Int32) = (0 : Int8).toInt32)) rfl ?_
  refine z_astore (lv' := [(4, .ref n2), (3, .int (nI n)), (0, .ref b1), (1, .int 0), (2, .int (nI n))]) F dJ7_copyOfRangeByte_39247_12 (by decide) rfl ?_
  refine z_aload_n F 2 dJ7_copyOfRangeByte_39247_14 rfl rfl ?_
  refine z_iload_n F 3 dJ7_copyOfRangeByte_39247_15 rfl rfl ?_
  refine z_aload F 0 dJ7_copyOfRangeByte_39247_16 rfl ?_
  refine z_iconst (v := 0) F dJ7_copyOfRangeByte_39247_18 (by decide) ?_
  refine z_aload_n F 2 dJ7_copyOfRangeByte_39247_19 rfl rfl ?_
  refine z_alen (v := nI bc) F 0 3 rfl rfl rfl dJ7_copyOfRangeByte_39247_20 ?_
  refine z_iload_n F 3 dJ7_copyOfRangeByte_39247_21 rfl rfl ?_
  refine z_isub F dJ7_copyOfRangeByte_39247_22 ?_
  refine z_top (y := nI bc) (z_sub0 _) ?_
  refine z_iload_n F 1 dJ7_copyOfRangeByte_39247_23 rfl rfl ?_
  refine z_mmin F (List.mem_cons_of_mem _ (List.mem_append_left _ (List.mem_of_getElem? (i := 1) rfl))) (List.mem_cons_of_mem _ (List.mem_append_left _ (List.mem_of_getElem? (i := 2) rfl))) (List.mem_cons_of_mem _ (List.mem_append_left _ (List.mem_of_getElem? (i := 3) rfl))) (List.mem_cons_of_mem _ (List.mem_append_left _ (List.mem_of_getElem? (i := 4) rfl))) (Nat.le_of_ble_eq_true rfl) (Nat.le_of_ble_eq_true rfl) (Nat.le_of_ble_eq_true rfl) (by dsimp only; omega) dJ7_copyOfRangeByte_39247_24 ?_
  refine z_top (y := nI n) (z_minR hn (by omega)) ?_
  refine z_copyb (ws' := [(b1, .inl (g 3, bc, .inl ((zBy bp)))), (n2, .inl (g 3, n, .inl ((zBy (va_cpy bp ((fun _ => 0)) 0 0 n)))))]) F (List.mem_cons_of_mem _ (List.mem_append_left _ (List.mem_of_getElem? (i := 5) rfl))) (List.mem_cons_of_mem _ (List.mem_append_left _ (List.mem_of_getElem? (i := 6) rfl))) (List.mem_cons_of_mem _ (List.mem_append_left _ (List.mem_of_getElem? (i := 7) rfl))) (List.mem_cons_of_mem _ (List.mem_append_left _ (List.mem_of_getElem? (i := 8) rfl))) 0 1 3 3 rfl rfl rfl rfl 0 0 n rfl rfl rfl (by omega) (by omega) (by omega) (by omega) rfl (Nat.le_of_ble_eq_true rfl) (Nat.le_of_ble_eq_true rfl) dJ7_copyOfRangeByte_39247_27 ?_
  refine z_aload F 0 dJ7_copyOfRangeByte_39247_30 rfl ?_
  refine z_wide (k := 1) (n := 300) (by omega) (by omega) ?_
  exact z_rret F hA hQ hlk hr (Or.inr ⟨_, rfl⟩) (va_cpy bp (fun _ => 0) 0 0 n) (trivial) (rfl) dJ7_copyOfRangeByte_39247_32
set_option maxHeartbeats 4000000 in
set_option maxRecDepth 100000 in
theorem c_J7_copyOfRange_39247 (l : Launch) (D : va_G) (g : Nat → ClassId) (b1 : Nat) (bc : Nat) (bp : Nat → Int8) (n : Nat) (hb3 : bc ≤ 300) (hn : n < bc) (sz : Nat) : Met l yJ7_copyOfRange_39247 wsJ7_copyOfRange_39247 { frames := 2, cells := 1, slots := 300, locals := 45 } (zPc D (gT g) zNo [.ref b1, .int 0, .int (nI n)] [(b1, .inl (g 3, bc, .inl ((zBy bp))))] [] sz) (zQr D [(b1, .inl (g 3, bc, .inl ((zBy bp))))] (fun (_ : Nat → Int8) => True) (fun (u9 : Nat → Int8) (a9 : Nat) => [(b1, .inl (g 3, bc, .inl ((zBy bp)))), (a9, .inl (g 3, n, .inl ((zBy u9))))]) sz) 1 300 (va_A [(b1, .inl (g 3, bc, .inl ((zBy bp))))] sz) := by
  refine z_met (y := yJ7_copyOfRange_39247) (cc := cJ7_copyOfRange_39247) (nL := 3) (rm := { frames := 2, cells := 1, slots := 300, locals := 45 }) (D := D) (tys := gT g) (wr := []) (P0 := zNo) (As := [.ref b1, .int 0, .int (nI n)]) (ww := [(b1, .inl (g 3, bc, .inl ((zBy bp))))]) (Qc := zQr D [(b1, .inl (g 3, bc, .inl ((zBy bp))))] (fun (_ : Nat → Int8) => True) (fun (u9 : Nat → Int8) (a9 : Nat) => [(b1, .inl (g 3, bc, .inl ((zBy bp)))), (a9, .inl (g 3, n, .inl ((zBy u9))))])) (ret := (some (.array .byte))) (by decide) rfl (Nat.le_of_ble_eq_true rfl) ?_ sz
  intro p e s m args below meth c A Q hA hQ F E hr hlk hin
  show zW p l e { frames := 2, cells := 1, slots := 300, locals := 45 } s m args below meth c 3 D A Q 0 0 [(b1, .inl (g 3, bc, .inl ((zBy bp))))] [(0, .ref b1), (1, .int 0), (2, .int (nI n))] [] 0
  refine z_iload_n F 1 dJ7_copyOfRange_39247_0 rfl rfl ?_
  refine z_if_ne (tgt := 10) F dJ7_copyOfRange_39247_1 (by decide) (fun c1 => ?_) (fun c1 => ?_)
  · exact absurd (by decide) c1
  · refine z_iload_n F 2 dJ7_copyOfRange_39247_4 rfl rfl ?_
    refine z_aload_n F 0 dJ7_copyOfRange_39247_5 rfl rfl ?_
    refine z_alen (v := nI bc) F 0 3 rfl rfl rfl dJ7_copyOfRange_39247_6 ?_
    refine z_icmp_eq (tgt := 17) F dJ7_copyOfRange_39247_7 (by decide) (fun c2 => ?_) (fun c2 => ?_)
    · exact absurd ((nI_eq (by omega) (by omega)).mp c2) (by omega)
    · refine z_aload_n F 0 dJ7_copyOfRange_39247_10 rfl rfl ?_
      refine z_iload_n F 1 dJ7_copyOfRange_39247_11 rfl rfl ?_
      refine z_iload_n F 2 dJ7_copyOfRange_39247_12 rfl rfl ?_
      refine z_callr (wn := []) (wf := fun u4 a13_ => [(b1, .inl (g 3, bc, .inl ((zBy bp)))), (a13_, .inl (g 3, n, .inl ((zBy u4))))]) F (z_runS (st := []) F zNo_ok trivial (fun sz => c_J7_copyOfRangeByte_39247 l D g b1 bc bp n (hb3) (by omega) sz) (va_cwS 3 F.1.2.2.2.2 gJ7_copyOfRange_39247_J7_copyOfRangeByte_39247 rfl rfl rfl (by decide +kernel) ⟨Nat.le_of_ble_eq_true rfl, Nat.le_of_ble_eq_true rfl⟩) [0] [] rfl rfl (by decide) rfl rfl (Nat.le_of_ble_eq_true rfl) dJ7_copyOfRange_39247_13 ⟨Nat.le_of_ble_eq_true rfl, Nat.le_of_ble_eq_true rfl⟩) [0] [] [0, 1] rfl rfl (by decide) (by decide) (by decide) (fun _ _ => rfl) (fun u4 a13_ hw3 => ?_)
      clear hw3
      refine z_wide (k := 1) (n := 300) (Nat.le_of_ble_eq_true rfl) (Nat.le_of_ble_eq_true rfl) ?_
      exact z_rret F hA hQ hlk hr (Or.inr ⟨_, rfl⟩) u4 (trivial) (rfl) dJ7_copyOfRange_39247_16
set_option maxHeartbeats 4000000 in
set_option maxRecDepth 100000 in
theorem c_J5_getValue_6d5f1 (l : Launch) (D : va_G) (g : Nat → ClassId) (b0 : Nat) (b1 : Nat) (ml : Int32) (bn : Nat) (sz : Nat) : Met l yJ5_getValue_6d5f1 wsJ5_getValue_6d5f1 { frames := 0, cells := 0, slots := 0, locals := 0 } (zPc D (gT g) zNo [.ref b0] [] [(b0, .inr (1, [.ref b1, .int 0, .int ml, .int (nI bn)]))] sz) (zQe (fun _ => b1) D [] (fun (r : Option Nat) (_ : Unit) => r = some 0) (fun _ => []) sz) 0 0 (va_A [] sz) := by
  refine z_met (y := yJ5_getValue_6d5f1) (cc := cJ5_getValue_6d5f1) (nL := 1) (rm := { frames := 0, cells := 0, slots := 0, locals := 0 }) (D := D) (tys := gT g) (wr := [(b0, .inr (1, [.ref b1, .int 0, .int ml, .int (nI bn)]))]) (P0 := zNo) (As := [.ref b0]) (ww := []) (Qc := zQe (fun _ => b1) D [] (fun (r : Option Nat) (_ : Unit) => r = some 0) (fun _ => [])) (ret := (some (.array .byte))) (by decide) rfl (Nat.le_of_ble_eq_true rfl) ?_ sz
  intro p e s m args below meth c A Q hA hQ F E hr hlk hin
  show zW p l e { frames := 0, cells := 0, slots := 0, locals := 0 } s m args below meth c 1 D A Q 0 0 [] [(0, .ref b0)] [] 0
  refine z_aload_n F 0 dJ5_getValue_6d5f1_0 rfl rfl ?_
  refine z_get (C := RJ4) (T := TJ4) (N := 4) F (fun w h => List.mem_cons_of_mem _ (List.mem_append_right _ (h))) 0 rfl rfl 0 (by decide) (List.mem_cons_of_mem _ (List.mem_append_left _ (List.mem_of_getElem? (i := 0) rfl))) rfl rfl dJ5_getValue_6d5f1_1 ?_
  exact z_eretA F hA hQ hlk hr (v := some 0) rfl () (rfl) (rfl) dJ5_getValue_6d5f1_4
set_option maxHeartbeats 4000000 in
set_option maxRecDepth 100000 in
theorem c_J0_init_db425 (l : Launch) (D : va_G) (g : Nat → ClassId) (dg : Nat → Nat) (b0 : Nat) (b1 : Nat) (ml : Int32) (bn : Nat) (bc : Nat) (bp : Nat → Int8) (s0 : Nat) (hn : bn < bc) (hb3 : bc ≤ 300) (sz : Nat) : Met l yJ0_init_db425 wsJ0_init_db425 { frames := 3, cells := 1, slots := 300, locals := 67 } (zPc D (gT g) (zJ D g dg) [.ref s0, .ref b0, .null] [(s0, .inr (0, [.null, .int 0, .int 0, .int 0])), (b0, .inr (1, [.ref b1, .int 0, .int ml, .int (nI bn)])), (b1, .inl (g 3, bc, .inl ((zBy bp))))] [] sz) (zQv D [(s0, .inr (0, [.null, .int 0, .int 0, .int 0])), (b0, .inr (1, [.ref b1, .int 0, .int ml, .int (nI bn)])), (b1, .inl (g 3, bc, .inl ((zBy bp))))] (fun (_ : Nat × (Nat → Int8)) => True) (fun (u9 : Nat × (Nat → Int8)) => [(s0, .inr (0, [.ref u9.1, .int 0, .int 0, .int 0])), (b0, .inr (1, [.ref b1, .int 0, .int ml, .int (nI bn)])), (b1, .inl (g 3, bc, .inl ((zBy bp)))), (u9.1, .inl (g 3, bn, .inl ((zBy u9.2))))]) sz) 1 300 (va_A [(s0, .inr (0, [.null, .int 0, .int 0, .int 0])), (b0, .inr (1, [.ref b1, .int 0, .int ml, .int (nI bn)])), (b1, .inl (g 3, bc, .inl ((zBy bp))))] sz) := by
  refine z_met (y := yJ0_init_db425) (cc := cJ0_init_db425) (nL := 5) (rm := { frames := 3, cells := 1, slots := 300, locals := 67 }) (D := D) (tys := gT g) (wr := []) (P0 := zJ D g dg) (As := [.ref s0, .ref b0, .null]) (ww := [(s0, .inr (0, [.null, .int 0, .int 0, .int 0])), (b0, .inr (1, [.ref b1, .int 0, .int ml, .int (nI bn)])), (b1, .inl (g 3, bc, .inl ((zBy bp))))]) (Qc := zQv D [(s0, .inr (0, [.null, .int 0, .int 0, .int 0])), (b0, .inr (1, [.ref b1, .int 0, .int ml, .int (nI bn)])), (b1, .inl (g 3, bc, .inl ((zBy bp))))] (fun (_ : Nat × (Nat → Int8)) => True) (fun (u9 : Nat × (Nat → Int8)) => [(s0, .inr (0, [.ref u9.1, .int 0, .int 0, .int 0])), (b0, .inr (1, [.ref b1, .int 0, .int ml, .int (nI bn)])), (b1, .inl (g 3, bc, .inl ((zBy bp)))), (u9.1, .inl (g 3, bn, .inl ((zBy u9.2))))])) (ret := none) (by decide) rfl (Nat.le_of_ble_eq_true rfl) ?_ sz
  intro p e s m args below meth c A Q hA hQ F E hr hlk hin
  show zW p l e { frames := 3, cells := 1, slots := 300, locals := 67 } s m args below meth c 5 D A Q 0 0 [(s0, .inr (0, [.null, .int 0, .int 0, .int 0])), (b0, .inr (1, [.ref b1, .int 0, .int ml, .int (nI bn)])), (b1, .inl (g 3, bc, .inl ((zBy bp))))] [(0, .ref s0), (1, .ref b0), (2, .null)] [] 0
  refine z_aload_n F 0 dJ0_init_db425_0 rfl rfl ?_
  refine z_objInit F (List.mem_cons_of_mem _ (List.mem_append_left _ (List.mem_append_left _ (List.mem_append_left _ (List.mem_of_getElem? (i := 0) rfl))))) (List.mem_cons_of_mem _ (List.mem_append_left _ (List.mem_append_left _ (List.mem_append_left _ (List.mem_of_getElem? (i := 1) rfl))))) (List.mem_cons_of_mem _ (List.mem_append_left _ (List.mem_append_left _ (List.mem_append_left _ (List.mem_of_getElem? (i := 2) rfl))))) dJ0_init_db425_1 (Nat.le_of_ble_eq_true rfl) (Nat.le_of_ble_eq_true rfl) ?_
  refine z_aload_n F 1 dJ0_init_db425_4 rfl rfl ?_
  refine z_calle0 F (z_runU (st := []) F zNo_ok trivial (fun sz => c_J5_getValue_6d5f1 l D g b0 b1 ml bn sz) (va_cwU 0 F.1.2.2.2.2 gJ0_init_db425_J5_getValue_6d5f1_u552J4 rfl rfl rfl rfl (by decide +kernel) ⟨Nat.le_of_ble_eq_true rfl, Nat.le_of_ble_eq_true rfl⟩) 1 rfl rfl rfl [] [1] rfl rfl (by decide) rfl rfl (Nat.le_of_ble_eq_true rfl) dJ0_init_db425_5 ⟨Nat.le_of_ble_eq_true rfl, Nat.le_of_ble_eq_true rfl⟩) (fun r2 _ hw1 => ?_)
  subst hw1
  refine z_st (st' := [.ref b1]) rfl ?_
  refine z_astore_n (lv' := [(3, .ref b1), (0, .ref s0), (1, .ref b0), (2, .null)]) F dJ0_init_db425_8 rfl (by decide) rfl ?_
  refine z_aload_n F 2 dJ0_init_db425_9 rfl rfl ?_
  refine z_calli0 F (z_runU (st := []) F zNo_ok trivial (fun sz => c_J4_length_8abf5 l D g b0 b1 ml bn sz) (va_cwO 0 F.1.2.2.2.2 gJ0_init_db425_J4_length_8abf5_u549J4 rfl rfl rfl (List.mem_cons_of_mem _ (List.mem_append_left _ (List.mem_append_left _ (List.mem_append_right _ (List.mem_append_left _ (List.mem_of_getElem? (i := 0) rfl)))))) (by decide +kernel) ⟨Nat.le_of_ble_eq_true rfl, Nat.le_of_ble_eq_true rfl⟩) 1 rfl rfl rfl [] [1] rfl rfl (by decide) rfl rfl (Nat.le_of_ble_eq_true rfl) dJ0_init_db425_10 ⟨Nat.le_of_ble_eq_true rfl, Nat.le_of_ble_eq_true rfl⟩) (fun r4 _ hw3 => ?_)
  subst hw3
  refine z_istore (lv' := [(4, .int (nI bn)), (3, .ref b1), (0, .ref s0), (1, .ref b0), (2, .null)]) F dJ0_init_db425_13 (by decide) rfl ?_
  refine z_aload_n F 3 dJ0_init_db425_15 rfl rfl ?_
  refine z_calli0 F (z_runU (st := []) F ((zJ_ok D g dg)) E (fun sz => c_J5_isLatin1_aae02 l D g dg b0 b1 ml bn sz) (va_cwU 0 F.1.2.2.2.2 gJ0_init_db425_J5_isLatin1_aae02_u1047J4 rfl rfl rfl rfl (by decide +kernel) ⟨Nat.le_of_ble_eq_true rfl, Nat.le_of_ble_eq_true rfl⟩) 1 rfl rfl rfl [] [1] rfl rfl (by decide) rfl rfl (Nat.le_of_ble_eq_true rfl) dJ0_init_db425_16 ⟨Nat.le_of_ble_eq_true rfl, Nat.le_of_ble_eq_true rfl⟩) (fun r6 _ hw5 => ?_)
  subst hw5
  refine z_if_eq (tgt := 41) F dJ0_init_db425_19 (by decide) (fun c7 => ?_) (fun c7 => ?_)
  · exact absurd c7 (by decide)
  · refine z_aload_n F 2 dJ0_init_db425_22 rfl rfl ?_
    refine z_iconst (v := 0) F dJ0_init_db425_23 (by decide) ?_
    refine z_putF (C := RJ0) (T := TJ0) (N := 4) (ty := .byte) (ws' := [(s0, .inr (0, [.null, .int 0, .int 0, .int 0])), (b0, .inr (1, [.ref b1, .int 0, .int ml, .int (nI bn)])), (b1, .inl (g 3, bc, .inl ((zBy bp))))]) F (hin rfl) (fun w h => List.mem_cons_of_mem _ (List.mem_append_left _ (List.mem_append_right _ (h)))) tyJ0 tyJ0_ok nmJ0 0 rfl rfl 1 (by decide) (List.mem_cons_of_mem _ (List.mem_append_left _ (List.mem_append_left _ (List.mem_append_left _ (List.mem_of_getElem? (i := 3) rfl))))) rfl rfl rfl (by decide +kernel) (rfl) (rfl) (Nat.le_of_ble_eq_true rfl) rfl dJ0_init_db425_24 ?_
    refine z_aload_n F 2 dJ0_init_db425_27 rfl rfl ?_
    refine z_aload_n F 1 dJ0_init_db425_28 rfl rfl ?_
    refine z_iconst (v := 0) F dJ0_init_db425_29 (by decide) ?_
    refine z_iload F 0 dJ0_init_db425_30 rfl ?_
    refine z_callr (wn := [(s0, .inr (0, [.null, .int 0, .int 0, .int 0])), (b0, .inr (1, [.ref b1, .int 0, .int ml, .int (nI bn)]))]) (wf := fun u9 a32_ => [(s0, .inr (0, [.null, .int 0, .int 0, .int 0])), (b0, .inr (1, [.ref b1, .int 0, .int ml, .int (nI bn)])), (b1, .inl (g 3, bc, .inl ((zBy bp)))), (a32_, .inl (g 3, bn, .inl ((zBy u9))))]) F (z_runS (st := [.ref s0]) F zNo_ok trivial (fun sz => c_J7_copyOfRange_39247 l D g b1 bc bp bn (hb3) (hn) sz) (va_cwS 3 F.1.2.2.2.2 gJ0_init_db425_J7_copyOfRange_39247 rfl rfl rfl (by decide +kernel) ⟨Nat.le_of_ble_eq_true rfl, Nat.le_of_ble_eq_true rfl⟩) [2] [] rfl rfl (by decide) rfl rfl (Nat.le_of_ble_eq_true rfl) dJ0_init_db425_32 ⟨Nat.le_of_ble_eq_true rfl, Nat.le_of_ble_eq_true rfl⟩) [2] [0, 1] [0, 1, 2, 3] rfl rfl (by decide) (by decide) (by decide) (fun _ _ => rfl) (fun u9 a32_ hw8 => ?_)
    clear hw8
    refine z_putF (C := RJ0) (T := TJ0) (N := 4) (ty := (.array .byte)) (ws' := [(s0, .inr (0, [.ref a32_, .int 0, .int 0, .int 0])), (b0, .inr (1, [.ref b1, .int 0, .int ml, .int (nI bn)])), (b1, .inl (g 3, bc, .inl ((zBy bp)))), (a32_, .inl (g 3, bn, .inl ((zBy u9))))]) F (hin rfl) (fun w h => List.mem_cons_of_mem _ (List.mem_append_left _ (List.mem_append_right _ (h)))) tyJ0 tyJ0_ok nmJ0 0 rfl rfl 0 (by decide) (List.mem_cons_of_mem _ (List.mem_append_left _ (List.mem_append_left _ (List.mem_append_left _ (List.mem_of_getElem? (i := 4) rfl))))) rfl rfl rfl (by decide +kernel) (rfl) (rfl) (Nat.le_of_ble_eq_true rfl) rfl dJ0_init_db425_35 ?_
    refine z_goto (tgt := 97) F dJ0_init_db425_38 (by decide) ?_
    refine z_wide (k := 1) (n := 300) (Nat.le_of_ble_eq_true rfl) (Nat.le_of_ble_eq_true rfl) ?_
    exact z_vret F hA hQ hlk hr (a32_, u9) (trivial) (rfl) dJ0_init_db425_97
set_option maxHeartbeats 4000000 in
set_option maxRecDepth 100000 in
theorem c_J0_init_81219 (l : Launch) (D : va_G) (g : Nat → ClassId) (dg : Nat → Nat) (b0 : Nat) (b1 : Nat) (ml : Int32) (bn : Nat) (bc : Nat) (bp : Nat → Int8) (s0 : Nat) (hn : bn < bc) (hb3 : bc ≤ 300) (sz : Nat) : Met l yJ0_init_81219 wsJ0_init_81219 { frames := 4, cells := 1, slots := 300, locals := 91 } (zPc D (gT g) (zJ D g dg) [.ref s0, .ref b0] [(s0, .inr (0, [.null, .int 0, .int 0, .int 0])), (b0, .inr (1, [.ref b1, .int 0, .int ml, .int (nI bn)])), (b1, .inl (g 3, bc, .inl ((zBy bp))))] [] sz) (zQv D [(s0, .inr (0, [.null, .int 0, .int 0, .int 0])), (b0, .inr (1, [.ref b1, .int 0, .int ml, .int (nI bn)])), (b1, .inl (g 3, bc, .inl ((zBy bp))))] (fun (_ : Nat × (Nat → Int8)) => True) (fun (u9 : Nat × (Nat → Int8)) => [(s0, .inr (0, [.ref u9.1, .int 0, .int 0, .int 0])), (b0, .inr (1, [.ref b1, .int 0, .int ml, .int (nI bn)])), (b1, .inl (g 3, bc, .inl ((zBy bp)))), (u9.1, .inl (g 3, bn, .inl ((zBy u9.2))))]) sz) 1 300 (va_A [(s0, .inr (0, [.null, .int 0, .int 0, .int 0])), (b0, .inr (1, [.ref b1, .int 0, .int ml, .int (nI bn)])), (b1, .inl (g 3, bc, .inl ((zBy bp))))] sz) := by
  refine z_met (y := yJ0_init_81219) (cc := cJ0_init_81219) (nL := 2) (rm := { frames := 4, cells := 1, slots := 300, locals := 91 }) (D := D) (tys := gT g) (wr := []) (P0 := zJ D g dg) (As := [.ref s0, .ref b0]) (ww := [(s0, .inr (0, [.null, .int 0, .int 0, .int 0])), (b0, .inr (1, [.ref b1, .int 0, .int ml, .int (nI bn)])), (b1, .inl (g 3, bc, .inl ((zBy bp))))]) (Qc := zQv D [(s0, .inr (0, [.null, .int 0, .int 0, .int 0])), (b0, .inr (1, [.ref b1, .int 0, .int ml, .int (nI bn)])), (b1, .inl (g 3, bc, .inl ((zBy bp))))] (fun (_ : Nat × (Nat → Int8)) => True) (fun (u9 : Nat × (Nat → Int8)) => [(s0, .inr (0, [.ref u9.1, .int 0, .int 0, .int 0])), (b0, .inr (1, [.ref b1, .int 0, .int ml, .int (nI bn)])), (b1, .inl (g 3, bc, .inl ((zBy bp)))), (u9.1, .inl (g 3, bn, .inl ((zBy u9.2))))])) (ret := none) (by decide) rfl (Nat.le_of_ble_eq_true rfl) ?_ sz
  intro p e s m args below meth c A Q hA hQ F E hr hlk hin
  show zW p l e { frames := 4, cells := 1, slots := 300, locals := 91 } s m args below meth c 2 D A Q 0 0 [(s0, .inr (0, [.null, .int 0, .int 0, .int 0])), (b0, .inr (1, [.ref b1, .int 0, .int ml, .int (nI bn)])), (b1, .inl (g 3, bc, .inl ((zBy bp))))] [(0, .ref s0), (1, .ref b0)] [] 0
  refine z_aload_n F 0 dJ0_init_81219_0 rfl rfl ?_
  refine z_aload_n F 1 dJ0_init_81219_1 rfl rfl ?_
  refine z_null F dJ0_init_81219_2 ?_
  refine z_callv (wn := []) (wf := fun u2 => [(s0, .inr (0, [.ref u2.1, .int 0, .int 0, .int 0])), (b0, .inr (1, [.ref b1, .int 0, .int ml, .int (nI bn)])), (b1, .inl (g 3, bc, .inl ((zBy bp)))), (u2.1, .inl (g 3, bn, .inl ((zBy u2.2))))]) F (z_runI (ret := none) (st := []) F ((zJ_ok D g dg)) E (fun sz => c_J0_init_db425 l D g dg b0 b1 ml bn bc bp s0 (hn) (hb3) sz) (cwI 2 F.1.2.2.2.2 gJ0_init_81219_J0_init_db425 rfl rfl rfl (F.1.2.2.2.2 _ (List.mem_cons_of_mem _ (List.mem_append_left _ (List.mem_append_left _ (List.mem_append_left _ (List.mem_of_getElem? (i := 2) rfl)))))) (F.1.2.2.2.2 _ (List.mem_cons_of_mem _ (List.mem_append_left _ (List.mem_append_left _ (List.mem_append_left _ (List.mem_of_getElem? (i := 0) rfl)))))) (F.1.2.2.2.2 _ (List.mem_cons_of_mem _ (List.mem_append_left _ (List.mem_append_left _ (List.mem_append_left _ (List.mem_of_getElem? (i := 1) rfl)))))) rfl (by decide +kernel) ⟨Nat.le_of_ble_eq_true rfl, Nat.le_of_ble_eq_true rfl⟩) [0, 1, 2] [] rfl rfl (by decide) rfl rfl (Nat.le_of_ble_eq_true rfl) dJ0_init_81219_3 ⟨Nat.le_of_ble_eq_true rfl, Nat.le_of_ble_eq_true rfl⟩) [0, 1, 2] [] [0, 1, 2, 3] rfl rfl (by decide) (by decide) (by decide) (fun _ => rfl) (fun u2 hw1 => ?_)
  clear hw1
  refine z_wide (k := 1) (n := 300) (Nat.le_of_ble_eq_true rfl) (Nat.le_of_ble_eq_true rfl) ?_
  exact z_vret F hA hQ hlk hr (u2.1, u2.2) (trivial) (rfl) dJ0_init_81219_6
set_option maxHeartbeats 4000000 in
set_option maxRecDepth 100000 in
theorem c_J4_toString_0e30d (l : Launch) (D : va_G) (g : Nat → ClassId) (dg : Nat → Nat) (b0 : Nat) (b1 : Nat) (ml : Int32) (bn : Nat) (bc : Nat) (bp : Nat → Int8) (hn : bn < bc) (hb3 : bc ≤ 300) (sz : Nat) : Met l yJ4_toString_0e30d wsJ4_toString_0e30d { frames := 5, cells := 2, slots := 304, locals := 112 } (zPc D (gT g) (zJ D g dg) [.ref b0] [(b0, .inr (1, [.ref b1, .int 0, .int ml, .int (nI bn)])), (b1, .inl (g 3, bc, .inl ((zBy bp))))] [] sz) (zQr D [(b0, .inr (1, [.ref b1, .int 0, .int ml, .int (nI bn)])), (b1, .inl (g 3, bc, .inl ((zBy bp))))] (fun (_ : Nat × (Nat → Int8)) => True) (fun (u9 : Nat × (Nat → Int8)) (a9 : Nat) => [(b0, .inr (1, [.ref b1, .int 0, .int ml, .int (nI bn)])), (b1, .inl (g 3, bc, .inl ((zBy bp)))), (a9, .inr (0, [.ref u9.1, .int 0, .int 0, .int 0])), (u9.1, .inl (g 3, bn, .inl ((zBy u9.2))))]) sz) 2 304 (va_A [(b0, .inr (1, [.ref b1, .int 0, .int ml, .int (nI bn)])), (b1, .inl (g 3, bc, .inl ((zBy bp))))] sz) := by
  refine z_met (y := yJ4_toString_0e30d) (cc := cJ4_toString_0e30d) (nL := 1) (rm := { frames := 5, cells := 2, slots := 304, locals := 112 }) (D := D) (tys := gT g) (wr := []) (P0 := zJ D g dg) (As := [.ref b0]) (ww := [(b0, .inr (1, [.ref b1, .int 0, .int ml, .int (nI bn)])), (b1, .inl (g 3, bc, .inl ((zBy bp))))]) (Qc := zQr D [(b0, .inr (1, [.ref b1, .int 0, .int ml, .int (nI bn)])), (b1, .inl (g 3, bc, .inl ((zBy bp))))] (fun (_ : Nat × (Nat → Int8)) => True) (fun (u9 : Nat × (Nat → Int8)) (a9 : Nat) => [(b0, .inr (1, [.ref b1, .int 0, .int ml, .int (nI bn)])), (b1, .inl (g 3, bc, .inl ((zBy bp)))), (a9, .inr (0, [.ref u9.1, .int 0, .int 0, .int 0])), (u9.1, .inl (g 3, bn, .inl ((zBy u9.2))))])) (ret := (some (.object "java/lang/String"))) (by decide) rfl (Nat.le_of_ble_eq_true rfl) ?_ sz
  intro p e s m args below meth c A Q hA hQ F E hr hlk hin
  show zW p l e { frames := 5, cells := 2, slots := 304, locals := 112 } s m args below meth c 1 D A Q 0 0 [(b0, .inr (1, [.ref b1, .int 0, .int ml, .int (nI bn)])), (b1, .inl (g 3, bc, .inl ((zBy bp))))] [(0, .ref b0)] [] 0
  refine z_new (C := RJ0) (T := TJ0) (N := 4) (ci := 0) (fs := [.null, .int 0, .int 0, .int 0]) (wf := fun n1 => [(b0, .inr (1, [.ref b1, .int 0, .int ml, .int (nI bn)])), (b1, .inl (g 3, bc, .inl ((zBy bp)))), (n1, .inr (0, [.null, .int 0, .int 0, .int 0]))]) F (fun w h => List.mem_cons_of_mem _ (List.mem_append_left _ (List.mem_append_right _ (h)))) tyJ0 tyJ0_ok (List.mem_cons_of_mem _ (List.mem_append_left _ (List.mem_append_left _ (List.mem_append_left _ (List.mem_of_getElem? (i := 0) rfl))))) (List.mem_cons_of_mem _ (List.mem_append_left _ (List.mem_append_left _ (List.mem_append_left _ (List.mem_of_getElem? (i := 1) rfl))))) (List.mem_cons_of_mem _ (List.mem_append_left _ (List.mem_append_left _ (List.mem_append_left _ (List.mem_of_getElem? (i := 2) rfl))))) rfl (by decide) (Nat.le_of_ble_eq_true rfl) (Nat.le_of_ble_eq_true rfl) (fun _ => rfl) dJ4_toString_0e30d_0 (fun n1 => ?_)
  refine z_dup F dJ4_toString_0e30d_3 rfl ?_
  refine z_aload_n F 0 dJ4_toString_0e30d_4 rfl rfl ?_
  refine z_callv (wn := []) (wf := fun u3 => [(b0, .inr (1, [.ref b1, .int 0, .int ml, .int (nI bn)])), (b1, .inl (g 3, bc, .inl ((zBy bp)))), (n1, .inr (0, [.ref u3.1, .int 0, .int 0, .int 0])), (u3.1, .inl (g 3, bn, .inl ((zBy u3.2))))]) F (z_runI (ret := none) (st := [.ref n1]) F ((zJ_ok D g dg)) E (fun sz => c_J0_init_81219 l D g dg b0 b1 ml bn bc bp n1 (hn) (hb3) sz) (cwI 1 F.1.2.2.2.2 gJ4_toString_0e30d_J0_init_81219 rfl rfl rfl (F.1.2.2.2.2 _ (List.mem_cons_of_mem _ (List.mem_append_left _ (List.mem_append_left _ (List.mem_append_left _ (List.mem_of_getElem? (i := 2) rfl)))))) (F.1.2.2.2.2 _ (List.mem_cons_of_mem _ (List.mem_append_left _ (List.mem_append_left _ (List.mem_append_left _ (List.mem_of_getElem? (i := 3) rfl)))))) (F.1.2.2.2.2 _ (List.mem_cons_of_mem _ (List.mem_append_left _ (List.mem_append_left _ (List.mem_append_left _ (List.mem_of_getElem? (i := 4) rfl)))))) rfl (by decide +kernel) ⟨Nat.le_of_ble_eq_true rfl, Nat.le_of_ble_eq_true rfl⟩) [2, 0, 1] [] rfl rfl (by decide) rfl rfl (Nat.le_of_ble_eq_true rfl) dJ4_toString_0e30d_5 ⟨Nat.le_of_ble_eq_true rfl, Nat.le_of_ble_eq_true rfl⟩) [2, 0, 1] [] [1, 2, 0, 3] rfl rfl (by decide) (by decide) (by decide) (fun _ => rfl) (fun u3 hw2 => ?_)
  clear hw2
  refine z_wide (k := 2) (n := 304) (Nat.le_of_ble_eq_true rfl) (Nat.le_of_ble_eq_true rfl) ?_
  exact z_rret F hA hQ hlk hr (Or.inl ⟨_, rfl⟩) (u3.1, u3.2) (trivial) (rfl) dJ4_toString_0e30d_8
