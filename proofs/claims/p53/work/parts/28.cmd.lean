/-! STRINGS THAT ARE READ, THE INPUT'S CHARACTERS -/
def f_fb (i : Nat) : Nat → Int8 := fun k => (([[109, 101, 109, 98, 101, 114], [100, 101, 98, 116, 32, 35, 32, 35, 32, 64], [112, 97, 121, 32, 35, 32, 35, 32, 64], [110, 101, 116, 32, 35, 32, 35], [114, 105, 110, 103, 32, 35, 35, 35], [99, 108, 101, 97, 114], [112, 108, 101, 100, 103, 101, 32, 35, 32, 64], [102, 97, 105, 108, 32, 35], [112, 108, 101, 100, 103, 101, 32, 48, 32, 49, 59, 110, 101, 116, 32], [32], [100, 101, 98, 116, 32, 49, 32, 48, 32, 49, 59, 102, 97, 105, 108, 32], [113], [99, 108, 101, 97, 114, 59, 110, 101, 116, 32, 48, 32, 49, 59, 110, 101, 116, 32, 48, 32, 48], [110, 101, 116, 32, 57, 32, 49]] : List (List Int8)).getD i []).getD k 0
def f_fl (i : Nat) : Nat := ([6, 10, 9, 7, 8, 5, 10, 6, 15, 1, 16, 1, 21, 7] : List Nat).getD i 0
theorem f_fl_le (i : Nat) : f_fl i ≤ 21 := by
  by_cases h : i < 14
  · have : ∀ i, i < 14 → f_fl i ≤ 21 := by decide +kernel
    exact this i h
  · unfold f_fl
    rw [List.getD_eq_getElem?_getD, List.getElem?_eq_none (by show 14 ≤ i; omega)]
    exact Nat.zero_le _
/-- the constant strings that are reached: the commands' forms, the law's texts -/
def zSk (fs fv : Nat → Nat) : zE := fun A U H => ∀ i, i < 14 → va_O "java/lang/String" (fs i) A U H ∧ va_OF "java/lang/String" "coder" "B" (.int 0) (fs i) A U H ∧ va_OF "java/lang/String" "value" "[B" (.ref (fv i)) (fs i) A U H ∧ va_T .byte (fv i) (f_fl i) (fun k => .int (zBy (f_fb i) k)) A U H
theorem zSk_ok (fs fv : Nat → Nat) : zOK (zSk fs fv) := ⟨fun _ _ _ _ h k i hi => ⟨va_O.moved h.alike (k i hi).1, va_OF.moved h.alike (k i hi).2.1, va_OF.moved h.alike (k i hi).2.2.1, va_T.moved h.alike (k i hi).2.2.2⟩, fun _ _ _ _ h k i hi => ⟨(k i hi).1.kept h, (k i hi).2.1.kept h, (k i hi).2.2.1.kept h, (k i hi).2.2.2.kept h⟩, fun _ _ _ _ h k i hi => ⟨(k i hi).1.narrow h, (k i hi).2.1.narrow h, (k i hi).2.2.1.narrow h, (k i hi).2.2.2.narrow h⟩⟩
def zJk (D : va_G) (g : Nat → ClassId) (dg fs fv : Nat → Nat) : zE := fun A U H => zJ D g dg A U H ∧ zSk fs fv A U H
theorem zJk_ok (D : va_G) (g : Nat → ClassId) (dg fs fv : Nat → Nat) : zOK (zJk D g dg fs fv) := ⟨fun _ _ _ _ h k => ⟨(zJ_ok D g dg).1 _ _ _ _ h k.1, (zSk_ok fs fv).1 _ _ _ _ h k.2⟩, fun _ _ _ _ h k => ⟨(zJ_ok D g dg).2.1 _ _ _ _ h k.1, (zSk_ok fs fv).2.1 _ _ _ _ h k.2⟩, fun _ _ _ _ h k => ⟨(zJ_ok D g dg).2.2 _ _ _ _ h k.1, (zSk_ok fs fv).2.2 _ _ _ _ h k.2⟩⟩
section ZKS
variable {p : Program} {l : Launch} {e : Env} {R : Room} {s : State} {m : MethodId} {args : Array Value} {below : List Frame} {meth : Method} {c : Code} {cells slots : Nat} {Q : State → Prop}
variable {cc : ByteArray} {nL : Nat} {own : String} {Ts : List Cond} {D : va_G} {tys : List (ClassId × FieldType)} {A : Nat → Prop} {wr ws : va_W} {lv : List (Nat × Value)} {st : List Value} {pc : Nat} {H : Heap} {locs : List Loc}
/-- a field of a constant -/
theorem z_getK (F : zF p s m args meth c cc nL own Ts D tys A wr) {o n d9 : String} {index a0 : Nat} {v : Value} (hE : va_OF o n d9 v a0 A s s.heap) (hlink : Cond.fieldLink own index o n d9 ∈ Ts) (d : decode cc pc = .ok (.getfield index, 3)) (k : zW p l e R s m args below meth c nL D A Q cells slots ws lv (v :: st) (pc + 3)) : zW p l e R s m args below meth c nL D A Q cells slots ws lv (.ref a0 :: st) pc := fun H locs ls hP hD hS hl => vk_getf F.1.1 F.1.2.1 hE hS F.1.2.2.2.1 (F.1.2.2.2.2 _ hlink) (fun _ h => h) d (k H locs ls hP hD hS hl)
/-- a call on a constant -/
theorem z_runVK (F : zF p s m args meth c cc nL own Ts D tys A wr) {P0 : zE} (ok : zOK P0) (E : P0 A s s.heap) {y : MethodName} {bytes : ByteArray} {maxL index n mc ms : Nat} {ret : Option FieldType} {wsy : List Cond} {rm : Room} {Qc : Nat → Array Value → State → Outcome → State → Prop} {ww wrc : va_W} {b : Nat} {As : List Value} {C : String} (hM : ∀ sz, Met l y wsy rm (zPc D tys P0 (.ref b :: As) ww wrc sz) (Qc sz) mc ms (va_A ww sz)) (cw : CallW R s args own C index y bytes maxL ret wsy rm mc ms n) (hO : va_O C b A s s.heap) (isC isR : List Nat) (hC : isC.map (fun i => ws[i]?) = ww.map some) (hCR : (isC ++ isR).map (fun i => (ws ++ wr)[i]?) = (ww ++ wrc).map some) (hn : va_nd (isC ++ isR) = true) (hlen : As.length = n) {sk : List Value} (hsk : sk = As.reverse ++ .ref b :: st) (hW : (st.map fun v => v.category).sum ≤ 8) (d : decode cc pc = .ok (.invokevirtual index, 3)) (hf : cells + mc ≤ R.cells ∧ slots + ms ≤ R.slots) :
    zR p l e R s m args below meth c nL D A cells slots mc ms ws lv sk pc st ww (fun sz => Qc sz (.ref b :: As).toArray) := fun H locs ls hP hD hS hl => va_runV F.1 (hM H.size) cw ⟨z_blind ok, (by
      obtain ⟨cell, h1, h2, h3, -⟩ := hO.kept hS.2.1
      exact ⟨cell, h1, h2, h3⟩), z_pre F ok E isC isR hC hCR hn hP hD hS⟩ rfl hlen hl.1 hsk (lv_room hW) d hf
end ZKS
/-- the characters below the length alone -/
def zMk (ch : Nat → Int32) (ln : Nat) : Nat → Int32 := fun k => if k < ln then ch k else 0
theorem zMk_lt {ch : Nat → Int32} {ln k : Nat} (h : k < ln) : zMk ch ln k = ch k := if_pos h
def f_hasAt (tx : Nat → Int32) (ln x : Nat) (v : Int32) : Int32 := if nI ln ≤ nI x then 0 else if tx x = v then 1 else 0
def f_hd (tx : Nat → Int32) (ln x : Nat) : Int32 := if nI ln ≤ nI x then 0 else if tx x < 48 then 0 else if 57 < tx x then 0 else 1
theorem z_hasAt {tx : Nat → Int32} {ln x : Nat} {v : Int32} (h : ¬ f_hasAt tx ln x v = 0) (hx : x < 2147483648) (hl : ln < 2147483648) : x < ln := by
  unfold f_hasAt at h
  split at h
  · exact absurd rfl h
  · next h1 => exact z_lt hx hl h1
theorem z_hd {tx : Nat → Int32} {ln x : Nat} (h : ¬ f_hd tx ln x = 0) (hx : x < 2147483648) (hl : ln < 2147483648) : x < ln := by
  unfold f_hd at h
  split at h
  · exact absurd rfl h
  · next h1 => exact z_lt hx hl h1
def f_rT (tx : Nat → Int32) (ln : Nat) (v : Int32) (x : Nat) : Int32 := if v = 0 then 0 else f_hd tx ln (x + 1)
def f_rR (tx : Nat → Int32) (ln : Nat) (v : Int32) (x : Nat) : Nat := if f_rT tx ln v x = 0 then x + 1 else x + 2
def f_rN (tx : Nat → Int32) (ln : Nat) (v : Int32) (x : Nat) : Int32 := if f_rT tx ln v x = 0 then tx x - 48 else (tx x - 48) * 10 + tx (x + 1) - 48
def f_rC (nc : Nat) : Nat := if 3 ≤ nc then nc else nc + 1
def f_rU (nc : Nat) (nu : Nat → Int32) (z : Int32) : Nat → Int32 := if 3 ≤ nc then nu else upd nu nc z
set_option maxHeartbeats 4000000 in
set_option maxRecDepth 100000 in
theorem c_J0_coder_7d493 (l : Launch) (D : va_G) (g : Nat → ClassId) (dg : Nat → Nat) (s0 : Nat) (s1 : Nat) (sh : Int32) (sz9 : Int32) (sz : Nat) : Met l yJ0_coder_7d493 wsJ0_coder_7d493 { frames := 0, cells := 0, slots := 0, locals := 0 } (zPc D (gT g) (zJ D g dg) [.ref s0] [] [(s0, .inr (0, [.ref s1, .int 0, .int sh, .int sz9]))] sz) (zQi D [] (fun (r : Int32) (_ : Unit) => r = 0) (fun _ => []) sz) 0 0 (va_A [] sz) := by
  refine z_met (y := yJ0_coder_7d493) (cc := cJ0_coder_7d493) (nL := 1) (rm := { frames := 0, cells := 0, slots := 0, locals := 0 }) (D := D) (tys := gT g) (wr := [(s0, .inr (0, [.ref s1, .int 0, .int sh, .int sz9]))]) (P0 := zJ D g dg) (As := [.ref s0]) (ww := []) (Qc := zQi D [] (fun (r : Int32) (_ : Unit) => r = 0) (fun _ => [])) (ret := (some .byte)) (by decide) rfl (Nat.le_of_ble_eq_true rfl) ?_ sz
  intro p e s m args below meth c A Q hA hQ F E hr hlk hin
  show zW p l e { frames := 0, cells := 0, slots := 0, locals := 0 } s m args below meth c 1 D A Q 0 0 [] [(0, .ref s0)] [] 0
  refine z_gets F E.1 (List.mem_cons_of_mem _ (List.mem_append_left _ (List.mem_of_getElem? (i := 0) rfl))) dJ0_coder_7d493_0 ?_
  refine z_if_eq (tgt := 13) F dJ0_coder_7d493_3 (by decide) (fun c1 => ?_) (fun c1 => ?_)
  · exact absurd c1 (by decide)
  · refine z_aload_n F 0 dJ0_coder_7d493_6 rfl rfl ?_
    refine z_get (C := RJ0) (T := TJ0) (N := 4) F (fun w h => List.mem_cons_of_mem _ (List.mem_append_right _ (h))) 0 rfl rfl 1 (by decide) (List.mem_cons_of_mem _ (List.mem_append_left _ (List.mem_of_getElem? (i := 1) rfl))) rfl rfl dJ0_coder_7d493_7 ?_
    refine z_goto (tgt := 14) F dJ0_coder_7d493_10 (by decide) ?_
    exact z_zret F hA hQ hlk hr (rfl) () (rfl) (rfl) dJ0_coder_7d493_14
set_option maxHeartbeats 4000000 in
set_option maxRecDepth 100000 in
theorem c_J0_isLatin1_aae02 (l : Launch) (D : va_G) (g : Nat → ClassId) (dg : Nat → Nat) (s0 : Nat) (s1 : Nat) (sh : Int32) (sz9 : Int32) (sz : Nat) : Met l yJ0_isLatin1_aae02 wsJ0_isLatin1_aae02 { frames := 0, cells := 0, slots := 0, locals := 0 } (zPc D (gT g) (zJ D g dg) [.ref s0] [] [(s0, .inr (0, [.ref s1, .int 0, .int sh, .int sz9]))] sz) (zQi D [] (fun (r : Int32) (_ : Unit) => r = 1) (fun _ => []) sz) 0 0 (va_A [] sz) := by
  refine z_met (y := yJ0_isLatin1_aae02) (cc := cJ0_isLatin1_aae02) (nL := 1) (rm := { frames := 0, cells := 0, slots := 0, locals := 0 }) (D := D) (tys := gT g) (wr := [(s0, .inr (0, [.ref s1, .int 0, .int sh, .int sz9]))]) (P0 := zJ D g dg) (As := [.ref s0]) (ww := []) (Qc := zQi D [] (fun (r : Int32) (_ : Unit) => r = 1) (fun _ => [])) (ret := (some .boolean)) (by decide) rfl (Nat.le_of_ble_eq_true rfl) ?_ sz
  intro p e s m args below meth c A Q hA hQ F E hr hlk hin
  show zW p l e { frames := 0, cells := 0, slots := 0, locals := 0 } s m args below meth c 1 D A Q 0 0 [] [(0, .ref s0)] [] 0
  refine z_gets F E.1 (List.mem_cons_of_mem _ (List.mem_append_left _ (List.mem_of_getElem? (i := 0) rfl))) dJ0_isLatin1_aae02_0 ?_
  refine z_if_eq (tgt := 17) F dJ0_isLatin1_aae02_3 (by decide) (fun c1 => ?_) (fun c1 => ?_)
  · exact absurd c1 (by decide)
  · refine z_aload_n F 0 dJ0_isLatin1_aae02_6 rfl rfl ?_
    refine z_get (C := RJ0) (T := TJ0) (N := 4) F (fun w h => List.mem_cons_of_mem _ (List.mem_append_right _ (h))) 0 rfl rfl 1 (by decide) (List.mem_cons_of_mem _ (List.mem_append_left _ (List.mem_of_getElem? (i := 1) rfl))) rfl rfl dJ0_isLatin1_aae02_7 ?_
    refine z_if_ne (tgt := 17) F dJ0_isLatin1_aae02_10 (by decide) (fun c2 => ?_) (fun c2 => ?_)
    · exact absurd (by decide) c2
    · refine z_iconst (v := 1) F dJ0_isLatin1_aae02_13 (by decide) ?_
      refine z_goto (tgt := 18) F dJ0_isLatin1_aae02_14 (by decide) ?_
      exact z_zret F hA hQ hlk hr (rfl) () (rfl) (rfl) dJ0_isLatin1_aae02_18
set_option maxHeartbeats 4000000 in
set_option maxRecDepth 100000 in
theorem c_J0_length_8abf5 (l : Launch) (D : va_G) (g : Nat → ClassId) (dg : Nat → Nat) (s0 : Nat) (s1 : Nat) (sh : Int32) (sz9 : Int32) (sn : Nat) (sb : Nat → Int8) (sz : Nat) : Met l yJ0_length_8abf5 wsJ0_length_8abf5 { frames := 1, cells := 0, slots := 0, locals := 20 } (zPc D (gT g) (zJ D g dg) [.ref s0] [] [(s0, .inr (0, [.ref s1, .int 0, .int sh, .int sz9])), (s1, .inl (g 3, sn, .inl ((zBy sb))))] sz) (zQi D [] (fun (r : Int32) (_ : Unit) => r = nI sn) (fun _ => []) sz) 0 0 (va_A [] sz) := by
  refine z_met (y := yJ0_length_8abf5) (cc := cJ0_length_8abf5) (nL := 1) (rm := { frames := 1, cells := 0, slots := 0, locals := 20 }) (D := D) (tys := gT g) (wr := [(s0, .inr (0, [.ref s1, .int 0, .int sh, .int sz9])), (s1, .inl (g 3, sn, .inl ((zBy sb))))]) (P0 := zJ D g dg) (As := [.ref s0]) (ww := []) (Qc := zQi D [] (fun (r : Int32) (_ : Unit) => r = nI sn) (fun _ => [])) (ret := (some .int)) (by decide) rfl (Nat.le_of_ble_eq_true rfl) ?_ sz
  intro p e s m args below meth c A Q hA hQ F E hr hlk hin
  show zW p l e { frames := 1, cells := 0, slots := 0, locals := 20 } s m args below meth c 1 D A Q 0 0 [] [(0, .ref s0)] [] 0
  refine z_aload_n F 0 dJ0_length_8abf5_0 rfl rfl ?_
  refine z_get (C := RJ0) (T := TJ0) (N := 4) F (fun w h => List.mem_cons_of_mem _ (List.mem_append_right _ (h))) 0 rfl rfl 0 (by decide) (List.mem_cons_of_mem _ (List.mem_append_left _ (List.mem_of_getElem? (i := 0) rfl))) rfl rfl dJ0_length_8abf5_1 ?_
  refine z_alen (v := nI sn) F 1 3 rfl rfl rfl dJ0_length_8abf5_4 ?_
  refine z_aload_n F 0 dJ0_length_8abf5_5 rfl rfl ?_
  refine z_calli0 F (z_runV (st := [.int (nI sn)]) F ((zJ_ok D g dg)) E (fun sz => c_J0_coder_7d493 l D g dg s0 s1 sh sz9 sz) (cwV 0 F.1.2.2.2.2 gJ0_length_8abf5_J0_coder_7d493 rfl rfl rfl (by decide +kernel) ⟨Nat.le_of_ble_eq_true rfl, Nat.le_of_ble_eq_true rfl⟩) 0 rfl rfl rfl [] [0] rfl rfl (by decide) rfl rfl (Nat.le_of_ble_eq_true rfl) dJ0_length_8abf5_6 ⟨Nat.le_of_ble_eq_true rfl, Nat.le_of_ble_eq_true rfl⟩) (fun r2 _ hw1 => ?_)
  subst hw1
  refine z_ishr F dJ0_length_8abf5_9 ?_
  refine z_top (y := nI sn) (z_shr0 _) ?_
  exact z_iret F hA hQ hlk hr () (rfl) (rfl) dJ0_length_8abf5_10
set_option maxHeartbeats 4000000 in
set_option maxRecDepth 100000 in
theorem c_J1_charAt_3b067 (l : Launch) (D : va_G) (g : Nat → ClassId) (dg : Nat → Nat) (s1 : Nat) (sn : Nat) (sb : Nat → Int8) (x : Nat) (hx : x < sn) (hn3 : sn < 1000) (sz : Nat) : Met l yJ1_charAt_3b067 wsJ1_charAt_3b067 { frames := 2, cells := 0, slots := 0, locals := 43 } (zPc D (gT g) (zJ D g dg) [.ref s1, .int (nI x)] [] [(s1, .inl (g 3, sn, .inl ((zBy sb))))] sz) (zQi D [] (fun (r : Int32) (_ : Unit) => r = f_ch (zBy sb x)) (fun _ => []) sz) 0 0 (va_A [] sz) := by
  refine z_met (y := yJ1_charAt_3b067) (cc := cJ1_charAt_3b067) (nL := 2) (rm := { frames := 2, cells := 0, slots := 0, locals := 43 }) (D := D) (tys := gT g) (wr := [(s1, .inl (g 3, sn, .inl ((zBy sb))))]) (P0 := zJ D g dg) (As := [.ref s1, .int (nI x)]) (ww := []) (Qc := zQi D [] (fun (r : Int32) (_ : Unit) => r = f_ch (zBy sb x)) (fun _ => [])) (ret := (some .char)) (by decide) rfl (Nat.le_of_ble_eq_true rfl) ?_ sz
  intro p e s m args below meth c A Q hA hQ F E hr hlk hin
  show zW p l e { frames := 2, cells := 0, slots := 0, locals := 43 } s m args below meth c 2 D A Q 0 0 [] [(0, .ref s1), (1, .int (nI x))] [] 0
  refine z_iload_n F 1 dJ1_charAt_3b067_0 rfl rfl ?_
  refine z_aload_n F 0 dJ1_charAt_3b067_1 rfl rfl ?_
  refine z_alen (v := nI sn) F 0 3 rfl rfl rfl dJ1_charAt_3b067_2 ?_
  refine z_callv0 F (z_runS (st := []) F ((zJ_ok D g dg)) E (fun sz => c_J0_checkIndex_df160 l D g dg x sn (hx) (hn3) sz) (va_cwS 2 F.1.2.2.2.2 gJ1_charAt_3b067_J0_checkIndex_df160 rfl rfl rfl (by decide +kernel) ⟨Nat.le_of_ble_eq_true rfl, Nat.le_of_ble_eq_true rfl⟩) [] [] rfl rfl (by decide) rfl rfl (Nat.le_of_ble_eq_true rfl) dJ1_charAt_3b067_3 ⟨Nat.le_of_ble_eq_true rfl, Nat.le_of_ble_eq_true rfl⟩) (fun _ hw1 => ?_)
  clear hw1
  refine z_aload_n F 0 dJ1_charAt_3b067_6 rfl rfl ?_
  refine z_iload_n F 1 dJ1_charAt_3b067_7 rfl rfl ?_
  refine z_baldN (j := x) F 0 3 rfl rfl (hx) (by omega) dJ1_charAt_3b067_8 ?_
  refine z_sipush (v := 255) F dJ1_charAt_3b067_9 (by decide) ?_
  refine z_iand F dJ1_charAt_3b067_12 ?_
  refine z_i2c F dJ1_charAt_3b067_13 rfl ?_
  exact z_zret F hA hQ hlk hr (pk_nc _) () (rfl) (rfl) dJ1_charAt_3b067_14
set_option maxHeartbeats 4000000 in
set_option maxRecDepth 100000 in
theorem c_J0_charAt_5068e (l : Launch) (D : va_G) (g : Nat → ClassId) (dg : Nat → Nat) (s0 : Nat) (s1 : Nat) (sh : Int32) (sz9 : Int32) (sn : Nat) (sb : Nat → Int8) (x : Nat) (hx : x < sn) (hn3 : sn < 1000) (sz : Nat) : Met l yJ0_charAt_5068e wsJ0_charAt_5068e { frames := 3, cells := 0, slots := 0, locals := 64 } (zPc D (gT g) (zJ D g dg) [.ref s0, .int (nI x)] [] [(s0, .inr (0, [.ref s1, .int 0, .int sh, .int sz9])), (s1, .inl (g 3, sn, .inl ((zBy sb))))] sz) (zQi D [] (fun (r : Int32) (_ : Unit) => r = f_ch (zBy sb x)) (fun _ => []) sz) 0 0 (va_A [] sz) := by
  refine z_met (y := yJ0_charAt_5068e) (cc := cJ0_charAt_5068e) (nL := 2) (rm := { frames := 3, cells := 0, slots := 0, locals := 64 }) (D := D) (tys := gT g) (wr := [(s0, .inr (0, [.ref s1, .int 0, .int sh, .int sz9])), (s1, .inl (g 3, sn, .inl ((zBy sb))))]) (P0 := zJ D g dg) (As := [.ref s0, .int (nI x)]) (ww := []) (Qc := zQi D [] (fun (r : Int32) (_ : Unit) => r = f_ch (zBy sb x)) (fun _ => [])) (ret := (some .char)) (by decide) rfl (Nat.le_of_ble_eq_true rfl) ?_ sz
  intro p e s m args below meth c A Q hA hQ F E hr hlk hin
  show zW p l e { frames := 3, cells := 0, slots := 0, locals := 64 } s m args below meth c 2 D A Q 0 0 [] [(0, .ref s0), (1, .int (nI x))] [] 0
  refine z_aload_n F 0 dJ0_charAt_5068e_0 rfl rfl ?_
  refine z_calli0 F (z_runV (st := []) F ((zJ_ok D g dg)) E (fun sz => c_J0_isLatin1_aae02 l D g dg s0 s1 sh sz9 sz) (cwV 0 F.1.2.2.2.2 gJ0_charAt_5068e_J0_isLatin1_aae02 rfl rfl rfl (by decide +kernel) ⟨Nat.le_of_ble_eq_true rfl, Nat.le_of_ble_eq_true rfl⟩) 0 rfl rfl rfl [] [0] rfl rfl (by decide) rfl rfl (Nat.le_of_ble_eq_true rfl) dJ0_charAt_5068e_1 ⟨Nat.le_of_ble_eq_true rfl, Nat.le_of_ble_eq_true rfl⟩) (fun r2 _ hw1 => ?_)
  subst hw1
  refine z_if_eq (tgt := 16) F dJ0_charAt_5068e_4 (by decide) (fun c3 => ?_) (fun c3 => ?_)
  · exact absurd c3 (by decide)
  · refine z_aload_n F 0 dJ0_charAt_5068e_7 rfl rfl ?_
    refine z_get (C := RJ0) (T := TJ0) (N := 4) F (fun w h => List.mem_cons_of_mem _ (List.mem_append_right _ (h))) 0 rfl rfl 0 (by decide) (List.mem_cons_of_mem _ (List.mem_append_left _ (List.mem_append_left _ (List.mem_of_getElem? (i := 0) rfl)))) rfl rfl dJ0_charAt_5068e_8 ?_
    refine z_iload_n F 1 dJ0_charAt_5068e_11 rfl rfl ?_
    refine z_calli0 F (z_runS (st := []) F ((zJ_ok D g dg)) E (fun sz => c_J1_charAt_3b067 l D g dg s1 sn sb x (hx) (hn3) sz) (va_cwS 2 F.1.2.2.2.2 gJ0_charAt_5068e_J1_charAt_3b067 rfl rfl rfl (by decide +kernel) ⟨Nat.le_of_ble_eq_true rfl, Nat.le_of_ble_eq_true rfl⟩) [] [1] rfl rfl (by decide) rfl rfl (Nat.le_of_ble_eq_true rfl) dJ0_charAt_5068e_12 ⟨Nat.le_of_ble_eq_true rfl, Nat.le_of_ble_eq_true rfl⟩) (fun r5 _ hw4 => ?_)
    subst hw4
    exact z_zret F hA hQ hlk hr (pk_nc _) () (rfl) (rfl) dJ0_charAt_5068e_15
set_option maxHeartbeats 4000000 in
set_option maxRecDepth 100000 in
theorem k_J0_coder_7d493 (l : Launch) (D : va_G) (g : Nat → ClassId) (dg : Nat → Nat) (fs : Nat → Nat) (fv : Nat → Nat) (ti : Nat) (ht9 : ti < 14) (sz : Nat) : Met l yJ0_coder_7d493 wsJ0_coder_7d493 { frames := 0, cells := 0, slots := 0, locals := 0 } (zPc D (gT g) (zJk D g dg fs fv) [.ref (fs ti)] [] [] sz) (zQi D [] (fun (r : Int32) (_ : Unit) => r = 0) (fun _ => []) sz) 0 0 (va_A [] sz) := by
  refine z_met (y := yJ0_coder_7d493) (cc := cJ0_coder_7d493) (nL := 1) (rm := { frames := 0, cells := 0, slots := 0, locals := 0 }) (D := D) (tys := gT g) (wr := []) (P0 := zJk D g dg fs fv) (As := [.ref (fs ti)]) (ww := []) (Qc := zQi D [] (fun (r : Int32) (_ : Unit) => r = 0) (fun _ => [])) (ret := (some .byte)) (by decide) rfl (Nat.le_of_ble_eq_true rfl) ?_ sz
  intro p e s m args below meth c A Q hA hQ F E hr hlk hin
  show zW p l e { frames := 0, cells := 0, slots := 0, locals := 0 } s m args below meth c 1 D A Q 0 0 [] [(0, .ref (fs ti))] [] 0
  refine z_gets F E.1.1 (List.mem_cons_of_mem _ (List.mem_append_left _ (List.mem_of_getElem? (i := 0) rfl))) dJ0_coder_7d493_0 ?_
  refine z_if_eq (tgt := 13) F dJ0_coder_7d493_3 (by decide) (fun c1 => ?_) (fun c1 => ?_)
  · exact absurd c1 (by decide)
  · refine z_aload_n F 0 dJ0_coder_7d493_6 rfl rfl ?_
    refine z_getK F (E.2 ti ht9).2.1 (List.mem_cons_of_mem _ (List.mem_append_left _ (List.mem_of_getElem? (i := 1) rfl))) dJ0_coder_7d493_7 ?_
    refine z_goto (tgt := 14) F dJ0_coder_7d493_10 (by decide) ?_
    exact z_zret F hA hQ hlk hr (rfl) () (rfl) (rfl) dJ0_coder_7d493_14
set_option maxHeartbeats 4000000 in
set_option maxRecDepth 100000 in
theorem k_J0_isLatin1_aae02 (l : Launch) (D : va_G) (g : Nat → ClassId) (dg : Nat → Nat) (fs : Nat → Nat) (fv : Nat → Nat) (ti : Nat) (ht9 : ti < 14) (sz : Nat) : Met l yJ0_isLatin1_aae02 wsJ0_isLatin1_aae02 { frames := 0, cells := 0, slots := 0, locals := 0 } (zPc D (gT g) (zJk D g dg fs fv) [.ref (fs ti)] [] [] sz) (zQi D [] (fun (r : Int32) (_ : Unit) => r = 1) (fun _ => []) sz) 0 0 (va_A [] sz) := by
  refine z_met (y := yJ0_isLatin1_aae02) (cc := cJ0_isLatin1_aae02) (nL := 1) (rm := { frames := 0, cells := 0, slots := 0, locals := 0 }) (D := D) (tys := gT g) (wr := []) (P0 := zJk D g dg fs fv) (As := [.ref (fs ti)]) (ww := []) (Qc := zQi D [] (fun (r : Int32) (_ : Unit) => r = 1) (fun _ => [])) (ret := (some .boolean)) (by decide) rfl (Nat.le_of_ble_eq_true rfl) ?_ sz
  intro p e s m args below meth c A Q hA hQ F E hr hlk hin
  show zW p l e { frames := 0, cells := 0, slots := 0, locals := 0 } s m args below meth c 1 D A Q 0 0 [] [(0, .ref (fs ti))] [] 0
  refine z_gets F E.1.1 (List.mem_cons_of_mem _ (List.mem_append_left _ (List.mem_of_getElem? (i := 0) rfl))) dJ0_isLatin1_aae02_0 ?_
  refine z_if_eq (tgt := 17) F dJ0_isLatin1_aae02_3 (by decide) (fun c1 => ?_) (fun c1 => ?_)
  · exact absurd c1 (by decide)
  · refine z_aload_n F 0 dJ0_isLatin1_aae02_6 rfl rfl ?_
    refine z_getK F (E.2 ti ht9).2.1 (List.mem_cons_of_mem _ (List.mem_append_left _ (List.mem_of_getElem? (i := 1) rfl))) dJ0_isLatin1_aae02_7 ?_
    refine z_if_ne (tgt := 17) F dJ0_isLatin1_aae02_10 (by decide) (fun c2 => ?_) (fun c2 => ?_)
    · exact absurd (by decide) c2
    · refine z_iconst (v := 1) F dJ0_isLatin1_aae02_13 (by decide) ?_
      refine z_goto (tgt := 18) F dJ0_isLatin1_aae02_14 (by decide) ?_
      exact z_zret F hA hQ hlk hr (rfl) () (rfl) (rfl) dJ0_isLatin1_aae02_18
set_option maxHeartbeats 4000000 in
set_option maxRecDepth 100000 in
theorem k_J0_length_8abf5 (l : Launch) (D : va_G) (g : Nat → ClassId) (dg : Nat → Nat) (fs : Nat → Nat) (fv : Nat → Nat) (ti : Nat) (ht9 : ti < 14) (sz : Nat) : Met l yJ0_length_8abf5 wsJ0_length_8abf5 { frames := 1, cells := 0, slots := 0, locals := 20 } (zPc D (gT g) (zJk D g dg fs fv) [.ref (fs ti)] [] [] sz) (zQi D [] (fun (r : Int32) (_ : Unit) => r = nI (f_fl ti)) (fun _ => []) sz) 0 0 (va_A [] sz) := by
  refine z_met (y := yJ0_length_8abf5) (cc := cJ0_length_8abf5) (nL := 1) (rm := { frames := 1, cells := 0, slots := 0, locals := 20 }) (D := D) (tys := gT g) (wr := []) (P0 := zJk D g dg fs fv) (As := [.ref (fs ti)]) (ww := []) (Qc := zQi D [] (fun (r : Int32) (_ : Unit) => r = nI (f_fl ti)) (fun _ => [])) (ret := (some .int)) (by decide) rfl (Nat.le_of_ble_eq_true rfl) ?_ sz
  intro p e s m args below meth c A Q hA hQ F E hr hlk hin
  show zW p l e { frames := 1, cells := 0, slots := 0, locals := 20 } s m args below meth c 1 D A Q 0 0 [] [(0, .ref (fs ti))] [] 0
  refine z_aload_n F 0 dJ0_length_8abf5_0 rfl rfl ?_
  refine z_getK F (E.2 ti ht9).2.2.1 (List.mem_cons_of_mem _ (List.mem_append_left _ (List.mem_of_getElem? (i := 0) rfl))) dJ0_length_8abf5_1 ?_
  refine z_alenT F (E.2 ti ht9).2.2.2 dJ0_length_8abf5_4 ?_
  refine z_aload_n F 0 dJ0_length_8abf5_5 rfl rfl ?_
  refine z_calli0 F (z_runVK (st := [.int (nI (f_fl ti))]) F ((zJk_ok D g dg fs fv)) E (fun sz => k_J0_coder_7d493 l D g dg fs fv ti (by omega) sz) (cwV 0 F.1.2.2.2.2 gJ0_length_8abf5_J0_coder_7d493 rfl rfl rfl (by decide +kernel) ⟨Nat.le_of_ble_eq_true rfl, Nat.le_of_ble_eq_true rfl⟩) (E.2 ti ht9).1 [] [] rfl rfl (by decide) rfl rfl (Nat.le_of_ble_eq_true rfl) dJ0_length_8abf5_6 ⟨Nat.le_of_ble_eq_true rfl, Nat.le_of_ble_eq_true rfl⟩) (fun r2 _ hw1 => ?_)
  subst hw1
  refine z_ishr F dJ0_length_8abf5_9 ?_
  refine z_top (y := nI (f_fl ti)) (z_shr0 _) ?_
  exact z_iret F hA hQ hlk hr () (rfl) (rfl) dJ0_length_8abf5_10
set_option maxHeartbeats 4000000 in
set_option maxRecDepth 100000 in
theorem k_J1_charAt_3b067 (l : Launch) (D : va_G) (g : Nat → ClassId) (dg : Nat → Nat) (fs : Nat → Nat) (fv : Nat → Nat) (ti : Nat) (x : Nat) (ht9 : ti < 14) (hx : x < f_fl ti) (sz : Nat) : Met l yJ1_charAt_3b067 wsJ1_charAt_3b067 { frames := 2, cells := 0, slots := 0, locals := 43 } (zPc D (gT g) (zJk D g dg fs fv) [.ref (fv ti), .int (nI x)] [] [] sz) (zQi D [] (fun (r : Int32) (_ : Unit) => r = f_ch (zBy (f_fb ti) x)) (fun _ => []) sz) 0 0 (va_A [] sz) := by
  refine z_met (y := yJ1_charAt_3b067) (cc := cJ1_charAt_3b067) (nL := 2) (rm := { frames := 2, cells := 0, slots := 0, locals := 43 }) (D := D) (tys := gT g) (wr := []) (P0 := zJk D g dg fs fv) (As := [.ref (fv ti), .int (nI x)]) (ww := []) (Qc := zQi D [] (fun (r : Int32) (_ : Unit) => r = f_ch (zBy (f_fb ti) x)) (fun _ => [])) (ret := (some .char)) (by decide) rfl (Nat.le_of_ble_eq_true rfl) ?_ sz
  intro p e s m args below meth c A Q hA hQ F E hr hlk hin
  have hn3 := f_fl_le ti
  show zW p l e { frames := 2, cells := 0, slots := 0, locals := 43 } s m args below meth c 2 D A Q 0 0 [] [(0, .ref (fv ti)), (1, .int (nI x))] [] 0
  refine z_iload_n F 1 dJ1_charAt_3b067_0 rfl rfl ?_
  refine z_aload_n F 0 dJ1_charAt_3b067_1 rfl rfl ?_
  refine z_alenT F (E.2 ti ht9).2.2.2 dJ1_charAt_3b067_2 ?_
  refine z_callv0 F (z_runS (st := []) F ((zJ_ok D g dg)) E.1 (fun sz => c_J0_checkIndex_df160 l D g dg x (f_fl ti) (hx) (by omega) sz) (va_cwS 2 F.1.2.2.2.2 gJ1_charAt_3b067_J0_checkIndex_df160 rfl rfl rfl (by decide +kernel) ⟨Nat.le_of_ble_eq_true rfl, Nat.le_of_ble_eq_true rfl⟩) [] [] rfl rfl (by decide) rfl rfl (Nat.le_of_ble_eq_true rfl) dJ1_charAt_3b067_3 ⟨Nat.le_of_ble_eq_true rfl, Nat.le_of_ble_eq_true rfl⟩) (fun _ hw1 => ?_)
  clear hw1
  refine z_aload_n F 0 dJ1_charAt_3b067_6 rfl rfl ?_
  refine z_iload_n F 1 dJ1_charAt_3b067_7 rfl rfl ?_
  refine z_baldE (f := zBy (f_fb ti)) (j := x) F (E.2 ti ht9).2.2.2 (hx) (by omega) dJ1_charAt_3b067_8 ?_
  refine z_sipush (v := 255) F dJ1_charAt_3b067_9 (by decide) ?_
  refine z_iand F dJ1_charAt_3b067_12 ?_
  refine z_i2c F dJ1_charAt_3b067_13 rfl ?_
  exact z_zret F hA hQ hlk hr (pk_nc _) () (rfl) (rfl) dJ1_charAt_3b067_14
set_option maxHeartbeats 4000000 in
set_option maxRecDepth 100000 in
theorem k_J0_charAt_5068e (l : Launch) (D : va_G) (g : Nat → ClassId) (dg : Nat → Nat) (fs : Nat → Nat) (fv : Nat → Nat) (ti : Nat) (x : Nat) (ht9 : ti < 14) (hx : x < f_fl ti) (sz : Nat) : Met l yJ0_charAt_5068e wsJ0_charAt_5068e { frames := 3, cells := 0, slots := 0, locals := 64 } (zPc D (gT g) (zJk D g dg fs fv) [.ref (fs ti), .int (nI x)] [] [] sz) (zQi D [] (fun (r : Int32) (_ : Unit) => r = f_ch (zBy (f_fb ti) x)) (fun _ => []) sz) 0 0 (va_A [] sz) := by
  refine z_met (y := yJ0_charAt_5068e) (cc := cJ0_charAt_5068e) (nL := 2) (rm := { frames := 3, cells := 0, slots := 0, locals := 64 }) (D := D) (tys := gT g) (wr := []) (P0 := zJk D g dg fs fv) (As := [.ref (fs ti), .int (nI x)]) (ww := []) (Qc := zQi D [] (fun (r : Int32) (_ : Unit) => r = f_ch (zBy (f_fb ti) x)) (fun _ => [])) (ret := (some .char)) (by decide) rfl (Nat.le_of_ble_eq_true rfl) ?_ sz
  intro p e s m args below meth c A Q hA hQ F E hr hlk hin
  show zW p l e { frames := 3, cells := 0, slots := 0, locals := 64 } s m args below meth c 2 D A Q 0 0 [] [(0, .ref (fs ti)), (1, .int (nI x))] [] 0
  refine z_aload_n F 0 dJ0_charAt_5068e_0 rfl rfl ?_
  refine z_calli0 F (z_runVK (st := []) F ((zJk_ok D g dg fs fv)) E (fun sz => k_J0_isLatin1_aae02 l D g dg fs fv ti (by omega) sz) (cwV 0 F.1.2.2.2.2 gJ0_charAt_5068e_J0_isLatin1_aae02 rfl rfl rfl (by decide +kernel) ⟨Nat.le_of_ble_eq_true rfl, Nat.le_of_ble_eq_true rfl⟩) (E.2 ti ht9).1 [] [] rfl rfl (by decide) rfl rfl (Nat.le_of_ble_eq_true rfl) dJ0_charAt_5068e_1 ⟨Nat.le_of_ble_eq_true rfl, Nat.le_of_ble_eq_true rfl⟩) (fun r2 _ hw1 => ?_)
  subst hw1
  refine z_if_eq (tgt := 16) F dJ0_charAt_5068e_4 (by decide) (fun c3 => ?_) (fun c3 => ?_)
  · exact absurd c3 (by decide)
  · refine z_aload_n F 0 dJ0_charAt_5068e_7 rfl rfl ?_
    refine z_getK F (E.2 ti ht9).2.2.1 (List.mem_cons_of_mem _ (List.mem_append_left _ (List.mem_append_left _ (List.mem_of_getElem? (i := 0) rfl)))) dJ0_charAt_5068e_8 ?_
    refine z_iload_n F 1 dJ0_charAt_5068e_11 rfl rfl ?_
    refine z_calli0 F (z_runS (st := []) F ((zJk_ok D g dg fs fv)) E (fun sz => k_J1_charAt_3b067 l D g dg fs fv ti x (by omega) (hx) sz) (va_cwS 2 F.1.2.2.2.2 gJ0_charAt_5068e_J1_charAt_3b067 rfl rfl rfl (by decide +kernel) ⟨Nat.le_of_ble_eq_true rfl, Nat.le_of_ble_eq_true rfl⟩) [] [] rfl rfl (by decide) rfl rfl (Nat.le_of_ble_eq_true rfl) dJ0_charAt_5068e_12 ⟨Nat.le_of_ble_eq_true rfl, Nat.le_of_ble_eq_true rfl⟩) (fun r5 _ hw4 => ?_)
    subst hw4
    exact z_zret F hA hQ hlk hr (pk_nc _) () (rfl) (rfl) dJ0_charAt_5068e_15
set_option maxHeartbeats 4000000 in
set_option maxRecDepth 100000 in
theorem c_X3_hasAt (l : Launch) (D : va_G) (g : Nat → ClassId) (k0 : Nat) (k1 : Nat) (k2 : Nat) (ln : Nat) (nc : Nat) (cc9 : Int32) (re : Nat) (en : Nat) (ch : Nat → Int32) (x : Nat) (v : Int32) (hl6 : ln ≤ 60) (hx9 : x ≤ 1000) (sz : Nat) : Met l yX3_hasAt wsX3_hasAt { frames := 0, cells := 0, slots := 0, locals := 0 } (zPc D (gT g) zNo [.ref k0, .int (nI x), .int v] [] [(k0, .inr (5, [.ref k1, .ref k2, .int (nI ln), .int (nI nc), .int cc9, .int (nI re), .int (nI en)])), (k1, .inl (g 2, 60, .inl ch))] sz) (zQi D [] (fun (r : Int32) (_ : Unit) => r = f_hasAt (zMk ch ln) ln x v) (fun _ => []) sz) 0 0 (va_A [] sz) := by
  refine z_met (y := yX3_hasAt) (cc := cX3_hasAt) (nL := 3) (rm := { frames := 0, cells := 0, slots := 0, locals := 0 }) (D := D) (tys := gT g) (wr := [(k0, .inr (5, [.ref k1, .ref k2, .int (nI ln), .int (nI nc), .int cc9, .int (nI re), .int (nI en)])), (k1, .inl (g 2, 60, .inl ch))]) (P0 := zNo) (As := [.ref k0, .int (nI x), .int v]) (ww := []) (Qc := zQi D [] (fun (r : Int32) (_ : Unit) => r = f_hasAt (zMk ch ln) ln x v) (fun _ => [])) (ret := (some .boolean)) (by decide) rfl (Nat.le_of_ble_eq_true rfl) ?_ sz
  intro p e s m args below meth c A Q hA hQ F E hr hlk hin
  show zW p l e { frames := 0, cells := 0, slots := 0, locals := 0 } s m args below meth c 3 D A Q 0 0 [] [(0, .ref k0), (1, .int (nI x)), (2, .int v)] [] 0
  refine z_iload_n F 1 dX3_hasAt_0 rfl rfl ?_
  refine z_aload_n F 0 dX3_hasAt_1 rfl rfl ?_
  refine z_get (C := RX3) (T := TX3) (N := 7) F (fun w h => List.mem_cons_of_mem _ (List.mem_append_left _ (List.mem_append_right _ (h)))) 0 rfl rfl 2 (by decide) (List.mem_cons_of_mem _ (List.mem_append_left _ (List.mem_append_left _ (List.mem_of_getElem? (i := 0) rfl)))) rfl rfl dX3_hasAt_2 ?_
  refine z_icmp_ge (tgt := 22) F dX3_hasAt_5 (by decide) (fun c1 => ?_) (fun c1 => ?_)
  · refine z_iconst (v := 0) F dX3_hasAt_22 (by decide) ?_
    exact z_zret F hA hQ hlk hr (rfl) () (by simp only [f_hasAt, if_pos c1]) (rfl) dX3_hasAt_23
  · have hxl : x < ln := z_lt (by omega) (by omega) c1
    have hmk : zMk ch ln x = ch x := zMk_lt hxl
    refine z_aload_n F 0 dX3_hasAt_8 rfl rfl ?_
    refine z_get (C := RX3) (T := TX3) (N := 7) F (fun w h => List.mem_cons_of_mem _ (List.mem_append_left _ (List.mem_append_right _ (h)))) 0 rfl rfl 0 (by decide) (List.mem_cons_of_mem _ (List.mem_append_left _ (List.mem_append_left _ (List.mem_of_getElem? (i := 1) rfl)))) rfl rfl dX3_hasAt_9 ?_
    refine z_iload_n F 1 dX3_hasAt_12 rfl rfl ?_
    refine z_caldN (j := x) F 1 2 rfl rfl (by omega) (by decide) dX3_hasAt_13 ?_
    refine z_iload_n F 2 dX3_hasAt_14 rfl rfl ?_
    refine z_icmp_ne (tgt := 22) F dX3_hasAt_15 (by decide) (fun c2 => ?_) (fun c2 => ?_)
    · refine z_iconst (v := 0) F dX3_hasAt_22 (by decide) ?_
      exact z_zret F hA hQ hlk hr (rfl) () (by simp only [f_hasAt, hmk, if_neg c1, if_neg c2]) (rfl) dX3_hasAt_23
    · refine z_iconst (v := 1) F dX3_hasAt_18 (by decide) ?_
      refine z_goto (tgt := 23) F dX3_hasAt_19 (by decide) ?_
      exact z_zret F hA hQ hlk hr (rfl) () (by simp only [f_hasAt, hmk, if_neg c1, if_pos c2]) (rfl) dX3_hasAt_23
set_option maxHeartbeats 4000000 in
set_option maxRecDepth 100000 in
theorem c_X3_hasDigitAt (l : Launch) (D : va_G) (g : Nat → ClassId) (k0 : Nat) (k1 : Nat) (k2 : Nat) (ln : Nat) (nc : Nat) (cc9 : Int32) (re : Nat) (en : Nat) (ch : Nat → Int32) (x : Nat) (hl6 : ln ≤ 60) (hx9 : x ≤ 1000) (sz : Nat) : Met l yX3_hasDigitAt wsX3_hasDigitAt { frames := 0, cells := 0, slots := 0, locals := 0 } (zPc D (gT g) zNo [.ref k0, .int (nI x)] [] [(k0, .inr (5, [.ref k1, .ref k2, .int (nI ln), .int (nI nc), .int cc9, .int (nI re), .int (nI en)])), (k1, .inl (g 2, 60, .inl ch))] sz) (zQi D [] (fun (r : Int32) (_ : Unit) => r = f_hd (zMk ch ln) ln x) (fun _ => []) sz) 0 0 (va_A [] sz) := by
  refine z_met (y := yX3_hasDigitAt) (cc := cX3_hasDigitAt) (nL := 2) (rm := { frames := 0, cells := 0, slots := 0, locals := 0 }) (D := D) (tys := gT g) (wr := [(k0, .inr (5, [.ref k1, .ref k2, .int (nI ln), .int (nI nc), .int cc9, .int (nI re), .int (nI en)])), (k1, .inl (g 2, 60, .inl ch))]) (P0 := zNo) (As := [.ref k0, .int (nI x)]) (ww := []) (Qc := zQi D [] (fun (r : Int32) (_ : Unit) => r = f_hd (zMk ch ln) ln x) (fun _ => [])) (ret := (some .boolean)) (by decide) rfl (Nat.le_of_ble_eq_true rfl) ?_ sz
  intro p e s m args below meth c A Q hA hQ F E hr hlk hin
  show zW p l e { frames := 0, cells := 0, slots := 0, locals := 0 } s m args below meth c 2 D A Q 0 0 [] [(0, .ref k0), (1, .int (nI x))] [] 0
  refine z_iload_n F 1 dX3_hasDigitAt_0 rfl rfl ?_
  refine z_aload_n F 0 dX3_hasDigitAt_1 rfl rfl ?_
  refine z_get (C := RX3) (T := TX3) (N := 7) F (fun w h => List.mem_cons_of_mem _ (List.mem_append_left _ (List.mem_append_right _ (h)))) 0 rfl rfl 2 (by decide) (List.mem_cons_of_mem _ (List.mem_append_left _ (List.mem_append_left _ (List.mem_of_getElem? (i := 0) rfl)))) rfl rfl dX3_hasDigitAt_2 ?_
  refine z_icmp_ge (tgt := 34) F dX3_hasDigitAt_5 (by decide) (fun c1 => ?_) (fun c1 => ?_)
  · refine z_iconst (v := 0) F dX3_hasDigitAt_34 (by decide) ?_
    exact z_zret F hA hQ hlk hr (rfl) () (by simp only [f_hd, if_pos c1]) (rfl) dX3_hasDigitAt_35
  · have hxl : x < ln := z_lt (by omega) (by omega) c1
    have hmk : zMk ch ln x = ch x := zMk_lt hxl
    refine z_aload_n F 0 dX3_hasDigitAt_8 rfl rfl ?_
    refine z_get (C := RX3) (T := TX3) (N := 7) F (fun w h => List.mem_cons_of_mem _ (List.mem_append_left _ (List.mem_append_right _ (h)))) 0 rfl rfl 0 (by decide) (List.mem_cons_of_mem _ (List.mem_append_left _ (List.mem_append_left _ (List.mem_of_getElem? (i := 1) rfl)))) rfl rfl dX3_hasDigitAt_9 ?_
    refine z_iload_n F 1 dX3_hasDigitAt_12 rfl rfl ?_
    refine z_caldN (j := x) F 1 2 rfl rfl (by omega) (by decide) dX3_hasDigitAt_13 ?_
    refine z_bipush (v := 48) F dX3_hasDigitAt_14 (by decide) ?_
    refine z_icmp_lt (tgt := 34) F dX3_hasDigitAt_16 (by decide) (fun c2 => ?_) (fun c2 => ?_)
    · refine z_iconst (v := 0) F dX3_hasDigitAt_34 (by decide) ?_
      exact z_zret F hA hQ hlk hr (rfl) () (by simp only [f_hd, hmk, if_neg c1, if_pos c2]) (rfl) dX3_hasDigitAt_35
    · refine z_aload_n F 0 dX3_hasDigitAt_19 rfl rfl ?_
      refine z_get (C := RX3) (T := TX3) (N := 7) F (fun w h => List.mem_cons_of_mem _ (List.mem_append_left _ (List.mem_append_right _ (h)))) 0 rfl rfl 0 (by decide) (List.mem_cons_of_mem _ (List.mem_append_left _ (List.mem_append_left _ (List.mem_of_getElem? (i := 1) rfl)))) rfl rfl dX3_hasDigitAt_20 ?_
      refine z_iload_n F 1 dX3_hasDigitAt_23 rfl rfl ?_
      refine z_caldN (j := x) F 1 2 rfl rfl (by omega) (by decide) dX3_hasDigitAt_24 ?_
      refine z_bipush (v := 57) F dX3_hasDigitAt_25 (by decide) ?_
      refine z_icmp_gt (tgt := 34) F dX3_hasDigitAt_27 (by decide) (fun c3 => ?_) (fun c3 => ?_)
      · refine z_iconst (v := 0) F dX3_hasDigitAt_34 (by decide) ?_
        exact z_zret F hA hQ hlk hr (rfl) () (by simp only [f_hd, hmk, if_neg c1, if_neg c2, if_pos c3]) (rfl) dX3_hasDigitAt_35
      · refine z_iconst (v := 1) F dX3_hasDigitAt_30 (by decide) ?_
        refine z_goto (tgt := 35) F dX3_hasDigitAt_31 (by decide) ?_
        exact z_zret F hA hQ hlk hr (rfl) () (by simp only [f_hd, hmk, if_neg c1, if_neg c2, if_neg c3]) (rfl) dX3_hasDigitAt_35
set_option maxHeartbeats 4000000 in
set_option maxRecDepth 100000 in
theorem c_X3_numberAt (l : Launch) (D : va_G) (g : Nat → ClassId) (k0 : Nat) (k1 : Nat) (k2 : Nat) (ln : Nat) (nc : Nat) (cc9 : Int32) (re : Nat) (en : Nat) (nu : Nat → Int32) (x : Nat) (hx3 : x < 3) (hnc : nc ≤ 3) (sz : Nat) : Met l yX3_numberAt wsX3_numberAt { frames := 0, cells := 0, slots := 0, locals := 0 } (zPc D (gT g) zNo [.ref k0, .int (nI x)] [] [(k0, .inr (5, [.ref k1, .ref k2, .int (nI ln), .int (nI nc), .int cc9, .int (nI re), .int (nI en)])), (k2, .inl (g 0, 3, .inl nu))] sz) (zQi D [] (fun (r : Int32) (_ : Unit) => r = (if nI nc ≤ nI x then -1 else nu x)) (fun _ => []) sz) 0 0 (va_A [] sz) := by
  refine z_met (y := yX3_numberAt) (cc := cX3_numberAt) (nL := 2) (rm := { frames := 0, cells := 0, slots := 0, locals := 0 }) (D := D) (tys := gT g) (wr := [(k0, .inr (5, [.ref k1, .ref k2, .int (nI ln), .int (nI nc), .int cc9, .int (nI re), .int (nI en)])), (k2, .inl (g 0, 3, .inl nu))]) (P0 := zNo) (As := [.ref k0, .int (nI x)]) (ww := []) (Qc := zQi D [] (fun (r : Int32) (_ : Unit) => r = (if nI nc ≤ nI x then -1 else nu x)) (fun _ => [])) (ret := (some .int)) (by decide) rfl (Nat.le_of_ble_eq_true rfl) ?_ sz
  intro p e s m args below meth c A Q hA hQ F E hr hlk hin
  show zW p l e { frames := 0, cells := 0, slots := 0, locals := 0 } s m args below meth c 2 D A Q 0 0 [] [(0, .ref k0), (1, .int (nI x))] [] 0
  refine z_iload_n F 1 dX3_numberAt_0 rfl rfl ?_
  refine z_aload_n F 0 dX3_numberAt_1 rfl rfl ?_
  refine z_get (C := RX3) (T := TX3) (N := 7) F (fun w h => List.mem_cons_of_mem _ (List.mem_append_left _ (List.mem_append_right _ (h)))) 0 rfl rfl 3 (by decide) (List.mem_cons_of_mem _ (List.mem_append_left _ (List.mem_append_left _ (List.mem_of_getElem? (i := 0) rfl)))) rfl rfl dX3_numberAt_2 ?_
  refine z_icmp_ge (tgt := 17) F dX3_numberAt_5 (by decide) (fun c1 => ?_) (fun c1 => ?_)
  · refine z_iconst (v := (-1)) F dX3_numberAt_17 (by decide) ?_
    exact z_iret F hA hQ hlk hr () (by simp only [if_pos c1]) (rfl) dX3_numberAt_18
  · refine z_aload_n F 0 dX3_numberAt_8 rfl rfl ?_
    refine z_get (C := RX3) (T := TX3) (N := 7) F (fun w h => List.mem_cons_of_mem _ (List.mem_append_left _ (List.mem_append_right _ (h)))) 0 rfl rfl 1 (by decide) (List.mem_cons_of_mem _ (List.mem_append_left _ (List.mem_append_left _ (List.mem_of_getElem? (i := 1) rfl)))) rfl rfl dX3_numberAt_9 ?_
    refine z_iload_n F 1 dX3_numberAt_12 rfl rfl ?_
    refine z_ialdN (j := x) F 1 0 rfl rfl (hx3) (by decide) dX3_numberAt_13 ?_
    refine z_goto (tgt := 18) F dX3_numberAt_14 (by decide) ?_
    exact z_iret F hA hQ hlk hr () (by simp only [if_neg c1]) (rfl) dX3_numberAt_18
set_option maxHeartbeats 4000000 in
set_option maxRecDepth 100000 in
theorem c_X3_readNumber (l : Launch) (D : va_G) (g : Nat → ClassId) (k0 : Nat) (k1 : Nat) (k2 : Nat) (ln : Nat) (nc : Nat) (cc9 : Int32) (re : Nat) (en : Nat) (ch : Nat → Int32) (nu : Nat → Int32) (v : Int32) (hl6 : ln ≤ 60) (hre : re < ln) (hnc : nc ≤ 3) (sz : Nat) : Met l yX3_readNumber wsX3_readNumber { frames := 1, cells := 0, slots := 0, locals := 21 } (zPc D (gT g) zNo [.ref k0, .int v] [(k0, .inr (5, [.ref k1, .ref k2, .int (nI ln), .int (nI nc), .int cc9, .int (nI re), .int (nI en)])), (k2, .inl (g 0, 3, .inl nu))] [(k1, .inl (g 2, 60, .inl ch))] sz) (zQv D [(k0, .inr (5, [.ref k1, .ref k2, .int (nI ln), .int (nI nc), .int cc9, .int (nI re), .int (nI en)])), (k2, .inl (g 0, 3, .inl nu))] (fun (_ : Unit) => True) (fun _ => [(k0, .inr (5, [.ref k1, .ref k2, .int (nI ln), .int (nI (f_rC nc)), .int cc9, .int (nI (f_rR (zMk ch ln) ln v re)), .int (nI en)])), (k2, .inl (g 0, 3, .inl (f_rU nc nu (f_rN (zMk ch ln) ln v re))))]) sz) 0 0 (va_A [(k0, .inr (5, [.ref k1, .ref k2, .int (nI ln), .int (nI nc), .int cc9, .int (nI re), .int (nI en)])), (k2, .inl (g 0, 3, .inl nu))] sz) := by
  refine z_met (y := yX3_readNumber) (cc := cX3_readNumber) (nL := 3) (rm := { frames := 1, cells := 0, slots := 0, locals := 21 }) (D := D) (tys := gT g) (wr := [(k1, .inl (g 2, 60, .inl ch))]) (P0 := zNo) (As := [.ref k0, .int v]) (ww := [(k0, .inr (5, [.ref k1, .ref k2, .int (nI ln), .int (nI nc), .int cc9, .int (nI re), .int (nI en)])), (k2, .inl (g 0, 3, .inl nu))]) (Qc := zQv D [(k0, .inr (5, [.ref k1, .ref k2, .int (nI ln), .int (nI nc), .int cc9, .int (nI re), .int (nI en)])), (k2, .inl (g 0, 3, .inl nu))] (fun (_ : Unit) => True) (fun _ => [(k0, .inr (5, [.ref k1, .ref k2, .int (nI ln), .int (nI (f_rC nc)), .int cc9, .int (nI (f_rR (zMk ch ln) ln v re)), .int (nI en)])), (k2, .inl (g 0, 3, .inl (f_rU nc nu (f_rN (zMk ch ln) ln v re))))])) (ret := none) (by decide) rfl (Nat.le_of_ble_eq_true rfl) ?_ sz
  intro p e s m args below meth c A Q hA hQ F E hr hlk hin
  have hmk : zMk ch ln re = ch re := zMk_lt hre
  show zW p l e { frames := 1, cells := 0, slots := 0, locals := 21 } s m args below meth c 3 D A Q 0 0 [(k0, .inr (5, [.ref k1, .ref k2, .int (nI ln), .int (nI nc), .int cc9, .int (nI re), .int (nI en)])), (k2, .inl (g 0, 3, .inl nu))] [(0, .ref k0), (1, .int v)] [] 0
  refine z_aload_n F 0 dX3_readNumber_0 rfl rfl ?_
  refine z_get (C := RX3) (T := TX3) (N := 7) F (fun w h => List.mem_cons_of_mem _ (List.mem_append_left _ (List.mem_append_right _ (h)))) 0 rfl rfl 0 (by decide) (List.mem_cons_of_mem _ (List.mem_append_left _ (List.mem_append_left _ (List.mem_of_getElem? (i := 0) rfl)))) rfl rfl dX3_readNumber_1 ?_
  refine z_aload_n F 0 dX3_readNumber_4 rfl rfl ?_
  refine z_get (C := RX3) (T := TX3) (N := 7) F (fun w h => List.mem_cons_of_mem _ (List.mem_append_left _ (List.mem_append_right _ (h)))) 0 rfl rfl 5 (by decide) (List.mem_cons_of_mem _ (List.mem_append_left _ (List.mem_append_left _ (List.mem_of_getElem? (i := 1) rfl)))) rfl rfl dX3_readNumber_5 ?_
  refine z_caldN (j := re) F 2 2 rfl rfl (by omega) (by decide) dX3_readNumber_8 ?_
  refine z_bipush (v := 48) F dX3_readNumber_9 (by decide) ?_
  refine z_isub F dX3_readNumber_11 ?_
  refine z_istore_n (lv' := [(2, .int ((ch re) - 48)), (0, .ref k0), (1, .int v)]) F dX3_readNumber_12 rfl (by decide) rfl ?_
  refine z_aload_n F 1 dX3_readNumber_13 rfl rfl ?_
  refine z_dup F dX3_readNumber_14 rfl ?_
  refine z_get (C := RX3) (T := TX3) (N := 7) F (fun w h => List.mem_cons_of_mem _ (List.mem_append_left _ (List.mem_append_right _ (h)))) 0 rfl rfl 5 (by decide) (List.mem_cons_of_mem _ (List.mem_append_left _ (List.mem_append_left _ (List.mem_of_getElem? (i := 1) rfl)))) rfl rfl dX3_readNumber_15 ?_
  refine z_iconst (v := 1) F dX3_readNumber_18 (by decide) ?_
  refine z_iadd F dX3_readNumber_19 ?_
  refine z_top (y := nI (re + 1)) (nI_1 re) ?_
  refine z_put (C := RX3) (T := TX3) (N := 7) (ty := .int) (ws' := [(k0, .inr (5, [.ref k1, .ref k2, .int (nI ln), .int (nI nc), .int cc9, .int (nI (re + 1)), .int (nI en)])), (k2, .inl (g 0, 3, .inl nu))]) F (fun w h => List.mem_cons_of_mem _ (List.mem_append_left _ (List.mem_append_right _ (h)))) tyX3 tyX3_ok nmX3 0 rfl rfl 5 (by decide) (List.mem_cons_of_mem _ (List.mem_append_left _ (List.mem_append_left _ (List.mem_of_getElem? (i := 1) rfl)))) rfl rfl (by decide +kernel) (rfl) (rfl) (Nat.le_of_ble_eq_true rfl) rfl dX3_readNumber_20 ?_
  refine z_iload_n F 2 dX3_readNumber_23 rfl rfl ?_
  refine z_if_eq (tgt := 66) F dX3_readNumber_24 (by decide) (fun c1 => ?_) (fun c1 => ?_)
  · have hT : f_rT (zMk ch ln) ln v re = 0 := if_pos c1
    refine z_aload_n F 1 dX3_readNumber_66 rfl rfl ?_
    refine z_get (C := RX3) (T := TX3) (N := 7) F (fun w h => List.mem_cons_of_mem _ (List.mem_append_left _ (List.mem_append_right _ (h)))) 0 rfl rfl 3 (by decide) (List.mem_cons_of_mem _ (List.mem_append_left _ (List.mem_append_left _ (List.mem_of_getElem? (i := 2) rfl)))) rfl rfl dX3_readNumber_67 ?_
    refine z_iconst (v := 3) F dX3_readNumber_70 (by decide) ?_
    refine z_icmp_ge (tgt := 94) F dX3_readNumber_71 (by decide) (fun c2 => ?_) (fun c2 => ?_)
    · have h3 : 3 ≤ nc := z_ge (by omega) (by decide) c2
      exact z_vret F hA hQ hlk hr () (trivial) (by rw [f_rC, f_rU, f_rR, if_pos h3, if_pos h3, if_pos hT]) dX3_readNumber_94
    · have h3 : ¬ 3 ≤ nc := fun q => c2 (nI_le q (by omega))
      refine z_aload_n F 1 dX3_readNumber_74 rfl rfl ?_
      refine z_get (C := RX3) (T := TX3) (N := 7) F (fun w h => List.mem_cons_of_mem _ (List.mem_append_left _ (List.mem_append_right _ (h)))) 0 rfl rfl 1 (by decide) (List.mem_cons_of_mem _ (List.mem_append_left _ (List.mem_append_left _ (List.mem_of_getElem? (i := 3) rfl)))) rfl rfl dX3_readNumber_75 ?_
      refine z_aload_n F 1 dX3_readNumber_78 rfl rfl ?_
      refine z_get (C := RX3) (T := TX3) (N := 7) F (fun w h => List.mem_cons_of_mem _ (List.mem_append_left _ (List.mem_append_right _ (h)))) 0 rfl rfl 3 (by decide) (List.mem_cons_of_mem _ (List.mem_append_left _ (List.mem_append_left _ (List.mem_of_getElem? (i := 2) rfl)))) rfl rfl dX3_readNumber_79 ?_
      refine z_iload_n F 0 dX3_readNumber_82 rfl rfl ?_
      refine z_iastN (j := nc) (ws' := [(k0, .inr (5, [.ref k1, .ref k2, .int (nI ln), .int (nI nc), .int cc9, .int (nI (re + 1)), .int (nI en)])), (k2, .inl (g 0, 3, .inl (upd nu nc ((ch re) - 48))))]) F 1 0 rfl rfl (by omega) (by decide) rfl dX3_readNumber_83 ?_
      refine z_aload_n F 1 dX3_readNumber_84 rfl rfl ?_
      refine z_dup F dX3_readNumber_85 rfl ?_
      refine z_get (C := RX3) (T := TX3) (N := 7) F (fun w h => List.mem_cons_of_mem _ (List.mem_append_left _ (List.mem_append_right _ (h)))) 0 rfl rfl 3 (by decide) (List.mem_cons_of_mem _ (List.mem_append_left _ (List.mem_append_left _ (List.mem_of_getElem? (i := 2) rfl)))) rfl rfl dX3_readNumber_86 ?_
      refine z_iconst (v := 1) F dX3_readNumber_89 (by decide) ?_
      refine z_iadd F dX3_readNumber_90 ?_
      refine z_top (y := nI (nc + 1)) (nI_1 nc) ?_
      refine z_put (C := RX3) (T := TX3) (N := 7) (ty := .int) (ws' := [(k0, .inr (5, [.ref k1, .ref k2, .int (nI ln), .int (nI (nc + 1)), .int cc9, .int (nI (re + 1)), .int (nI en)])), (k2, .inl (g 0, 3, .inl (upd nu nc ((ch re) - 48))))]) F (fun w h => List.mem_cons_of_mem _ (List.mem_append_left _ (List.mem_append_right _ (h)))) tyX3 tyX3_ok nmX3 0 rfl rfl 3 (by decide) (List.mem_cons_of_mem _ (List.mem_append_left _ (List.mem_append_left _ (List.mem_of_getElem? (i := 2) rfl)))) rfl rfl (by decide +kernel) (rfl) (rfl) (Nat.le_of_ble_eq_true rfl) rfl dX3_readNumber_91 ?_
      exact z_vret F hA hQ hlk hr () (trivial) (by rw [f_rC, f_rU, f_rR, if_neg h3, if_neg h3, if_pos hT, f_rN, if_pos hT, hmk]) dX3_readNumber_94
  · have hv0 := c1
    refine z_aload_n F 1 dX3_readNumber_27 rfl rfl ?_
    refine z_aload_n F 1 dX3_readNumber_28 rfl rfl ?_
    refine z_get (C := RX3) (T := TX3) (N := 7) F (fun w h => List.mem_cons_of_mem _ (List.mem_append_left _ (List.mem_append_right _ (h)))) 0 rfl rfl 5 (by decide) (List.mem_cons_of_mem _ (List.mem_append_left _ (List.mem_append_left _ (List.mem_of_getElem? (i := 1) rfl)))) rfl rfl dX3_readNumber_29 ?_
    refine z_calli0 F (z_runV (st := []) F zNo_ok trivial (fun sz => c_X3_hasDigitAt l D g k0 k1 k2 ln nc cc9 (re + 1) en ch (re + 1) (hl6) (by omega) sz) (cwV 1 F.1.2.2.2.2 gX3_readNumber_X3_hasDigitAt rfl rfl rfl (by decide +kernel) ⟨Nat.le_of_ble_eq_true rfl, Nat.le_of_ble_eq_true rfl⟩) 0 rfl rfl rfl [] [0, 2] rfl rfl (by decide) rfl rfl (Nat.le_of_ble_eq_true rfl) dX3_readNumber_32 ⟨Nat.le_of_ble_eq_true rfl, Nat.le_of_ble_eq_true rfl⟩) (fun r4 _ hw3 => ?_)
    subst hw3
    refine z_if_eq (tgt := 66) F dX3_readNumber_35 (by decide) (fun c5 => ?_) (fun c5 => ?_)
    · have hT : f_rT (zMk ch ln) ln v re = 0 := (if_neg hv0).trans c5
      refine z_aload_n F 1 dX3_readNumber_66 rfl rfl ?_
      refine z_get (C := RX3) (T := TX3) (N := 7) F (fun w h => List.mem_cons_of_mem _ (List.mem_append_left _ (List.mem_append_right _ (h)))) 0 rfl rfl 3 (by decide) (List.mem_cons_of_mem _ (List.mem_append_left _ (List.mem_append_left _ (List.mem_of_getElem? (i := 2) rfl)))) rfl rfl dX3_readNumber_67 ?_
      refine z_iconst (v := 3) F dX3_readNumber_70 (by decide) ?_
      refine z_icmp_ge (tgt := 94) F dX3_readNumber_71 (by decide) (fun c6 => ?_) (fun c6 => ?_)
      · have h3 : 3 ≤ nc := z_ge (by omega) (by decide) c6
        exact z_vret F hA hQ hlk hr () (trivial) (by rw [f_rC, f_rU, f_rR, if_pos h3, if_pos h3, if_pos hT]) dX3_readNumber_94
      · have h3 : ¬ 3 ≤ nc := fun q => c6 (nI_le q (by omega))
        refine z_aload_n F 1 dX3_readNumber_74 rfl rfl ?_
        refine z_get (C := RX3) (T := TX3) (N := 7) F (fun w h => List.mem_cons_of_mem _ (List.mem_append_left _ (List.mem_append_right _ (h)))) 0 rfl rfl 1 (by decide) (List.mem_cons_of_mem _ (List.mem_append_left _ (List.mem_append_left _ (List.mem_of_getElem? (i := 3) rfl)))) rfl rfl dX3_readNumber_75 ?_
        refine z_aload_n F 1 dX3_readNumber_78 rfl rfl ?_
        refine z_get (C := RX3) (T := TX3) (N := 7) F (fun w h => List.mem_cons_of_mem _ (List.mem_append_left _ (List.mem_append_right _ (h)))) 0 rfl rfl 3 (by decide) (List.mem_cons_of_mem _ (List.mem_append_left _ (List.mem_append_left _ (List.mem_of_getElem? (i := 2) rfl)))) rfl rfl dX3_readNumber_79 ?_
        refine z_iload_n F 0 dX3_readNumber_82 rfl rfl ?_
        refine z_iastN (j := nc) (ws' := [(k0, .inr (5, [.ref k1, .ref k2, .int (nI ln), .int (nI nc), .int cc9, .int (nI (re + 1)), .int (nI en)])), (k2, .inl (g 0, 3, .inl (upd nu nc ((ch re) - 48))))]) F 1 0 rfl rfl (by omega) (by decide) rfl dX3_readNumber_83 ?_
        refine z_aload_n F 1 dX3_readNumber_84 rfl rfl ?_
        refine z_dup F dX3_readNumber_85 rfl ?_
        refine z_get (C := RX3) (T := TX3) (N := 7) F (fun w h => List.mem_cons_of_mem _ (List.mem_append_left _ (List.mem_append_right _ (h)))) 0 rfl rfl 3 (by decide) (List.mem_cons_of_mem _ (List.mem_append_left _ (List.mem_append_left _ (List.mem_of_getElem? (i := 2) rfl)))) rfl rfl dX3_readNumber_86 ?_
        refine z_iconst (v := 1) F dX3_readNumber_89 (by decide) ?_
        refine z_iadd F dX3_readNumber_90 ?_
        refine z_top (y := nI (nc + 1)) (nI_1 nc) ?_
        refine z_put (C := RX3) (T := TX3) (N := 7) (ty := .int) (ws' := [(k0, .inr (5, [.ref k1, .ref k2, .int (nI ln), .int (nI (nc + 1)), .int cc9, .int (nI (re + 1)), .int (nI en)])), (k2, .inl (g 0, 3, .inl (upd nu nc ((ch re) - 48))))]) F (fun w h => List.mem_cons_of_mem _ (List.mem_append_left _ (List.mem_append_right _ (h)))) tyX3 tyX3_ok nmX3 0 rfl rfl 3 (by decide) (List.mem_cons_of_mem _ (List.mem_append_left _ (List.mem_append_left _ (List.mem_of_getElem? (i := 2) rfl)))) rfl rfl (by decide +kernel) (rfl) (rfl) (Nat.le_of_ble_eq_true rfl) rfl dX3_readNumber_91 ?_
        exact z_vret F hA hQ hlk hr () (trivial) (by rw [f_rC, f_rU, f_rR, if_neg h3, if_neg h3, if_pos hT, f_rN, if_pos hT, hmk]) dX3_readNumber_94
    · have hT : ¬ f_rT (zMk ch ln) ln v re = 0 := fun q => c5 ((if_neg hv0).symm.trans q)
      have hr1 : re + 1 < ln := z_hd c5 (by omega) (by omega)
      have hmk1 : zMk ch ln (re + 1) = ch (re + 1) := zMk_lt hr1
      refine z_iload_n F 0 dX3_readNumber_38 rfl rfl ?_
      refine z_bipush (v := 10) F dX3_readNumber_39 (by decide) ?_
      refine z_imul F dX3_readNumber_41 ?_
      refine z_aload_n F 1 dX3_readNumber_42 rfl rfl ?_
      refine z_get (C := RX3) (T := TX3) (N := 7) F (fun w h => List.mem_cons_of_mem _ (List.mem_append_left _ (List.mem_append_right _ (h)))) 0 rfl rfl 0 (by decide) (List.mem_cons_of_mem _ (List.mem_append_left _ (List.mem_append_left _ (List.mem_of_getElem? (i := 0) rfl)))) rfl rfl dX3_readNumber_43 ?_
      refine z_aload_n F 1 dX3_readNumber_46 rfl rfl ?_
      refine z_get (C := RX3) (T := TX3) (N := 7) F (fun w h => List.mem_cons_of_mem _ (List.mem_append_left _ (List.mem_append_right _ (h)))) 0 rfl rfl 5 (by decide) (List.mem_cons_of_mem _ (List.mem_append_left _ (List.mem_append_left _ (List.mem_of_getElem? (i := 1) rfl)))) rfl rfl dX3_readNumber_47 ?_
      refine z_caldN (j := re + 1) F 2 2 rfl rfl (by omega) (by decide) dX3_readNumber_50 ?_
      refine z_iadd F dX3_readNumber_51 ?_
      refine z_bipush (v := 48) F dX3_readNumber_52 (by decide) ?_
      refine z_isub F dX3_readNumber_54 ?_
      refine z_istore_n (lv' := [(2, .int (((((ch re) - 48) * 10) + (ch (re + 1))) - 48)), (0, .ref k0), (1, .int v)]) F dX3_readNumber_55 rfl (by decide) rfl ?_
      refine z_aload_n F 1 dX3_readNumber_56 rfl rfl ?_
      refine z_dup F dX3_readNumber_57 rfl ?_
      refine z_get (C := RX3) (T := TX3) (N := 7) F (fun w h => List.mem_cons_of_mem _ (List.mem_append_left _ (List.mem_append_right _ (h)))) 0 rfl rfl 5 (by decide) (List.mem_cons_of_mem _ (List.mem_append_left _ (List.mem_append_left _ (List.mem_of_getElem? (i := 1) rfl)))) rfl rfl dX3_readNumber_58 ?_
      refine z_iconst (v := 1) F dX3_readNumber_61 (by decide) ?_
      refine z_iadd F dX3_readNumber_62 ?_
      refine z_top (y := nI (re + 2)) (nI_1 (re + 1)) ?_
      refine z_put (C := RX3) (T := TX3) (N := 7) (ty := .int) (ws' := [(k0, .inr (5, [.ref k1, .ref k2, .int (nI ln), .int (nI nc), .int cc9, .int (nI (re + 2)), .int (nI en)])), (k2, .inl (g 0, 3, .inl nu))]) F (fun w h => List.mem_cons_of_mem _ (List.mem_append_left _ (List.mem_append_right _ (h)))) tyX3 tyX3_ok nmX3 0 rfl rfl 5 (by decide) (List.mem_cons_of_mem _ (List.mem_append_left _ (List.mem_append_left _ (List.mem_of_getElem? (i := 1) rfl)))) rfl rfl (by decide +kernel) (rfl) (rfl) (Nat.le_of_ble_eq_true rfl) rfl dX3_readNumber_63 ?_
      refine z_aload_n F 1 dX3_readNumber_66 rfl rfl ?_
      refine z_get (C := RX3) (T := TX3) (N := 7) F (fun w h => List.mem_cons_of_mem _ (List.mem_append_left _ (List.mem_append_right _ (h)))) 0 rfl rfl 3 (by decide) (List.mem_cons_of_mem _ (List.mem_append_left _ (List.mem_append_left _ (List.mem_of_getElem? (i := 2) rfl)))) rfl rfl dX3_readNumber_67 ?_
      refine z_iconst (v := 3) F dX3_readNumber_70 (by decide) ?_
      refine z_icmp_ge (tgt := 94) F dX3_readNumber_71 (by decide) (fun c7 => ?_) (fun c7 => ?_)
      · have h3 : 3 ≤ nc := z_ge (by omega) (by decide) c7
        exact z_vret F hA hQ hlk hr () (trivial) (by rw [f_rC, f_rU, f_rR, if_pos h3, if_pos h3, if_neg hT]) dX3_readNumber_94
      · have h3 : ¬ 3 ≤ nc := fun q => c7 (nI_le q (by omega))
        refine z_aload_n F 1 dX3_readNumber_74 rfl rfl ?_
        refine z_get (C := RX3) (T := TX3) (N := 7) F (fun w h => List.mem_cons_of_mem _ (List.mem_append_left _ (List.mem_append_right _ (h)))) 0 rfl rfl 1 (by decide) (List.mem_cons_of_mem _ (List.mem_append_left _ (List.mem_append_left _ (List.mem_of_getElem? (i := 3) rfl)))) rfl rfl dX3_readNumber_75 ?_
        refine z_aload_n F 1 dX3_readNumber_78 rfl rfl ?_
        refine z_get (C := RX3) (T := TX3) (N := 7) F (fun w h => List.mem_cons_of_mem _ (List.mem_append_left _ (List.mem_append_right _ (h)))) 0 rfl rfl 3 (by decide) (List.mem_cons_of_mem _ (List.mem_append_left _ (List.mem_append_left _ (List.mem_of_getElem? (i := 2) rfl)))) rfl rfl dX3_readNumber_79 ?_
        refine z_iload_n F 0 dX3_readNumber_82 rfl rfl ?_
        refine z_iastN (j := nc) (ws' := [(k0, .inr (5, [.ref k1, .ref k2, .int (nI ln), .int (nI nc), .int cc9, .int (nI (re + 2)), .int (nI en)])), (k2, .inl (g 0, 3, .inl (upd nu nc (((((ch re) - 48) * 10) + (ch (re + 1))) - 48))))]) F 1 0 rfl rfl (by omega) (by decide) rfl dX3_readNumber_83 ?_
        refine z_aload_n F 1 dX3_readNumber_84 rfl rfl ?_
        refine z_dup F dX3_readNumber_85 rfl ?_
        refine z_get (C := RX3) (T := TX3) (N := 7) F (fun w h => List.mem_cons_of_mem _ (List.mem_append_left _ (List.mem_append_right _ (h)))) 0 rfl rfl 3 (by decide) (List.mem_cons_of_mem _ (List.mem_append_left _ (List.mem_append_left _ (List.mem_of_getElem? (i := 2) rfl)))) rfl rfl dX3_readNumber_86 ?_
        refine z_iconst (v := 1) F dX3_readNumber_89 (by decide) ?_
        refine z_iadd F dX3_readNumber_90 ?_
        refine z_top (y := nI (nc + 1)) (nI_1 nc) ?_
        refine z_put (C := RX3) (T := TX3) (N := 7) (ty := .int) (ws' := [(k0, .inr (5, [.ref k1, .ref k2, .int (nI ln), .int (nI (nc + 1)), .int cc9, .int (nI (re + 2)), .int (nI en)])), (k2, .inl (g 0, 3, .inl (upd nu nc (((((ch re) - 48) * 10) + (ch (re + 1))) - 48))))]) F (fun w h => List.mem_cons_of_mem _ (List.mem_append_left _ (List.mem_append_right _ (h)))) tyX3 tyX3_ok nmX3 0 rfl rfl 3 (by decide) (List.mem_cons_of_mem _ (List.mem_append_left _ (List.mem_append_left _ (List.mem_of_getElem? (i := 2) rfl)))) rfl rfl (by decide +kernel) (rfl) (rfl) (Nat.le_of_ble_eq_true rfl) rfl dX3_readNumber_91 ?_
        exact z_vret F hA hQ hlk hr () (trivial) (by rw [f_rC, f_rU, f_rR, if_neg h3, if_neg h3, if_neg hT, f_rN, if_neg hT, hmk, hmk1]) dX3_readNumber_94
