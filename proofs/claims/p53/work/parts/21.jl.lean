/-! THE LAYER, 3 -/
def zQr {S : Type} (D : va_G) (ww : va_W) (post : S → Prop) (ww' : S → Nat → va_W) (sz : Nat) : Array Value → State → Outcome → State → Prop := va_Qr post (fun u a t => zB D ww (fun _ : Unit => ww' u a) sz () t) (va_A ww sz)
def zBy (b : Nat → Int8) : Nat → Int32 := fun k => (b k).toInt32
theorem z_fb (f : Nat → Int8) (k : Nat) : fits .byte (.int (zBy f k)) = true := by
  have := pk_fb (zBy f k)
  rw [show (zBy f k).toInt8.toInt32 = zBy f k from by unfold zBy; rw [Int8.toInt8_toInt32]] at this
  exact this
theorem z_nbB (x : Int32) : vp_nar .byte x = x.toInt8.toInt32 := by
  have := pk_vb x
  first | rfl | exact this
theorem z_cpB (f g : Nat → Int8) (i j k : Nat) : va_cpy (zBy f) (zBy g) i j k = zBy (va_cpy f g i j k) := by
  funext x
  show (if j ≤ x ∧ x < j + k then zBy f (i + (x - j)) else zBy g x) = (if j ≤ x ∧ x < j + k then f (i + (x - j)) else g x).toInt32
  by_cases h : j ≤ x ∧ x < j + k
  · rw [if_pos h, if_pos h]; rfl
  · rw [if_neg h, if_neg h]; rfl
def zUp (b : Nat → Int8) (j : Nat) (v : Int32) : Nat → Int8 := fun k => if k = j then v.toInt8 else b k
theorem z_upP (b : Nat → Int8) (j : Nat) (v : Int32) (n : Nat) : ∀ k, k < n → upd (zBy b) j (vp_nar .byte v) k = zBy (zUp b j v) k := fun k _ => by
  by_cases h : k = j
  · subst h
    rw [pk_us, z_nbB]
    unfold zBy zUp
    rw [if_pos rfl]
  · rw [pk_un h]
    unfold zBy zUp
    rw [if_neg h]
section ZJ
variable {p : Program} {l : Launch} {e : Env} {R : Room} {s : State} {m : MethodId} {args : Array Value} {below : List Frame} {meth : Method} {c : Code} {cells slots : Nat} {Q : State → Prop}
variable {cc : ByteArray} {nL : Nat} {own : String} {Ts : List Cond} {D : va_G} {tys : List (ClassId × FieldType)} {A : Nat → Prop} {wr ws : va_W} {lv : List (Nat × Value)} {st : List Value} {pc : Nat} {H : Heap} {locs : List Loc}
/-- a method that the receiver's class inherits -/
theorem z_runU (F : zF p s m args meth c cc nL own Ts D tys A wr) {P0 : zE} (ok : zOK P0) (E : P0 A s s.heap) {y : MethodName} {bytes : ByteArray} {maxL index n mc ms : Nat} {ret : Option FieldType} {wsy : List Cond} {rm : Room} {Qc : Nat → Array Value → State → Outcome → State → Prop} {ww wrc : va_W} {x : MethodName} {C owner : String} {b : Nat} {As : List Value} (hM : ∀ sz, Met l y wsy rm (zPc D tys P0 (.ref b :: As) ww wrc sz) (Qc sz) mc ms (va_A ww sz)) (cw : va_CU R s args own C owner index x y bytes maxL ret wsy rm mc ms n) (q0 : Nat) {ci : Nat} {fs : List Value} {q : vw_C} (hq : (ws ++ wr)[q0]? = some (b, .inr (ci, fs))) (hc : vwCl[ci]? = some q) (hqC : q.1 = C) (isC isR : List Nat) (hC : isC.map (fun i => ws[i]?) = ww.map some) (hCR : (isC ++ isR).map (fun i => (ws ++ wr)[i]?) = (ww ++ wrc).map some) (hn : va_nd (isC ++ isR) = true) (hlen : As.length = n) {sk : List Value} (hsk : sk = As.reverse ++ .ref b :: st) (hW : (st.map fun v => v.category).sum ≤ 8) (d : decode cc pc = .ok (.invokevirtual index, 3)) (hf : cells + mc ≤ R.cells ∧ slots + ms ≤ R.slots) :
    zR p l e R s m args below meth c nL D A cells slots mc ms ws lv sk pc st ww (fun sz => Qc sz (.ref b :: As).toArray) := fun H locs ls hP hD hS hl => va_runU F.1 (hM H.size) cw ⟨z_blind ok, by rw [← hqC]; exact va_recv F.2.1 (z_all F hP hS) hc hq, z_pre F ok E isC isR hC hCR hn hP hD hS⟩ rfl hlen hl.1 hsk (lv_room hW) d hf
/-- a method of the super class, by name -/
theorem z_runSU (F : zF p s m args meth c cc nL own Ts D tys A wr) {P0 : zE} (ok : zOK P0) (E : P0 A s s.heap) {y : MethodName} {bytes : ByteArray} {maxL index n mc ms : Nat} {ret : Option FieldType} {wsy : List Cond} {rm : Room} {Qc : Nat → Array Value → State → Outcome → State → Prop} {ww wrc : va_W} {C : String} {b : Nat} {As : List Value} (hM : ∀ sz, Met l y wsy rm (zPc D tys P0 (.ref b :: As) ww wrc sz) (Qc sz) mc ms (va_A ww sz)) (cw : va_CS R s args own index y bytes maxL ret wsy rm mc ms n) (q0 : Nat) {ci : Nat} {fs : List Value} {q : vw_C} (hq : (ws ++ wr)[q0]? = some (b, .inr (ci, fs))) (hc : vwCl[ci]? = some q) (hqC : q.1 = C) (isC isR : List Nat) (hC : isC.map (fun i => ws[i]?) = ww.map some) (hCR : (isC ++ isR).map (fun i => (ws ++ wr)[i]?) = (ww ++ wrc).map some) (hn : va_nd (isC ++ isR) = true) (hlen : As.length = n) {sk : List Value} (hsk : sk = As.reverse ++ .ref b :: st) (hW : (st.map fun v => v.category).sum ≤ 8) (d : decode cc pc = .ok (.invokespecial index, 3)) (hf : cells + mc ≤ R.cells ∧ slots + ms ≤ R.slots) :
    zR p l e R s m args below meth c nL D A cells slots mc ms ws lv sk pc st ww (fun sz => Qc sz (.ref b :: As).toArray) := fun H locs ls hP hD hS hl => va_runSU (hqC ▸ (F.2.1.1 ci q hc).2 : ClassAt s C (D.1 ci)) F.1 (hM H.size) cw ⟨z_blind ok, by rw [← hqC]; exact va_recv F.2.1 (z_all F hP hS) hc hq, z_pre F ok E isC isR hC hCR hn hP hD hS⟩ rfl hlen hl.1 hsk (lv_room hW) d hf
/-- an answer that is a cell -/
theorem z_rret (F : zF p s m args meth c cc nL own Ts D tys A wr) {S : Type} {post : S → Prop} {ww : va_W} {ww' : S → Nat → va_W} (hA : A = va_A ww s.heap.size) (hQ : Q = MQ below (zQr D ww post ww' s.heap.size) args s cells slots (va_A ww s.heap.size)) (hlk : meth.locks = false) {rt : FieldType} (hr : meth.sig.returnType = some rt) (hrt : (∃ n, rt = .object n) ∨ ∃ t, rt = .array t) {a : Nat} (u : S) (hp : post u) (hw : ws = ww' u a) (d : decode cc pc = .ok (.areturn, 1)) : zW p l e R s m args below meth c nL D A Q cells slots ws lv ([.ref a]) pc := fun H locs ls hP hD hS hl => by
  subst hA; subst hQ
  exact W.aret (v := .ref a) F.1.1 F.1.2.1 hr hrt (Or.inr ⟨a, rfl⟩) (fun t ht hW => ⟨⟨u, a, rfl, hp, by rw [ht, ← hw]; exact hP, by rw [← hw]; exact hD⟩, hS.F ht⟩) hS.2.2 d hlk
theorem z_callr (F : zF p s m args meth c cc nL own Ts D tys A wr) {S : Type} {post : S → Prop} {ww wn : va_W} {ww' wf : S → Nat → va_W} {mc ms : Nat} {a : Array Value} {sk : List Value} (hr : zR p l e R s m args below meth c nL D A cells slots mc ms ws lv sk pc st ww (fun sz => zQr D ww post ww' sz a)) (isC isN perm : List Nat) (hC : isC.map (fun i => ws[i]?) = ww.map some) (hN : isN.map (fun i => ws[i]?) = wn.map some) (hnd : va_nd isN = true) (hdis : ∀ i ∈ isN, i ∉ isC) (hpn : va_nd perm = true) (hf : ∀ u b, perm.map (fun i => (wn ++ ww' u b)[i]?) = (wf u b).map some) (k : ∀ (u : S) (b : Nat), post u → zW p l e R s m args below meth c nL D A Q (cells + mc) (slots + ms) (wf u b) lv (.ref b :: st) (pc + 3)) : zW p l e R s m args below meth c nL D A Q cells slots ws lv sk pc := fun H locs ls hP hD hS hl => va_callr (hr H locs ls hP hD hS hl) hS (fun q _ h => va_free hD hS F.2.2.1 isC hC q h) (va_free hD hS F.2.2.1 isC hC) (fun u b t H1 locs1 ht hvm hw hB hz hk hS1 => k u b hw H1 locs1 ls ((z_back (ww' := fun _ : Unit => ww' u b) (u := ()) F isC isN perm hC hN hnd hdis hpn (hf u b) hP hD hS ht hB hk).1) ((z_back (ww' := fun _ : Unit => ww' u b) (u := ()) F isC isN perm hC hN hnd hdis hpn (hf u b) hP hD hS ht hB hk).2) hS1 hl)
/-- a static -/
theorem z_gets (F : zF p s m args meth c cc nL own Ts D tys A wr) {C n d9 : String} {v : Value} {index : Nat} (hZ : va_Z C n d9 v A s s.heap) (hlink : Cond.fieldLink own index C n d9 ∈ Ts) (dd : decode cc pc = .ok (.getstatic index, 3)) (k : zW p l e R s m args below meth c nL D A Q cells slots ws lv (v :: st) (pc + 3)) : zW p l e R s m args below meth c nL D A Q cells slots ws lv st pc := fun H locs ls hP hD hS hl => va_gets (C := C) (n := n) (d := d9) (ref := C) F.1.1 F.1.2.1 hZ hS F.1.2.2.2.1 (F.1.2.2.2.2 _ hlink) (fun _ h => h) dd (k H locs ls hP hD hS hl)
/-- a place of a static array of bytes, that nothing here writes -/
theorem z_baldE (F : zF p s m args meth c cc nL own Ts D tys A wr) {a0 : Nat} {n : Nat} {f : Nat → Int32} (hE : va_T .byte a0 n (fun k => .int (f k)) A s s.heap) {j : Nat} (hj : j < n) (hn : n < 2147483648) (d : decode cc pc = .ok (.baload, 1)) (k : zW p l e R s m args below meth c nL D A Q cells slots ws lv (.int (f j) :: st) (pc + 1)) : zW p l e R s m args below meth c nL D A Q cells slots ws lv (.int (nI j) :: .ref a0 :: st) pc := fun H locs ls hP hD hS hl => va_tb F.1.1 F.1.2.1 hE hS (vp_in_nI hj hn) (by rw [nI_clamp (Nat.lt_trans hj hn)]) d (k H locs ls hP hD hS hl)
theorem z_alenT (F : zF p s m args meth c cc nL own Ts D tys A wr) {ty9 : FieldType} {a0 : Nat} {n : Nat} {f : Nat → Value} (hE : va_T ty9 a0 n f A s s.heap) (d : decode cc pc = .ok (.arraylength, 1)) (k : zW p l e R s m args below meth c nL D A Q cells slots ws lv (.int (nI n) :: st) (pc + 1)) : zW p l e R s m args below meth c nL D A Q cells slots ws lv (.ref a0 :: st) pc := fun H locs ls hP hD hS hl => va_tlen F.1.1 F.1.2.1 hE hS rfl d (k H locs ls hP hD hS hl)
/-- bytes are copied -/
theorem z_copyb (F : zF p s m args meth c cc nL own Ts D tys A wr) {index : Nat} (h1 : Cond.methodLink own index arraycopyName ∈ Ts) (h2 : Cond.native arraycopyName ∈ Ts) (h3 : Cond.static arraycopyName ∈ Ts) (h4 : Cond.initialized "java/lang/System" ∈ Ts) (q0 q1 t0 t1 : Nat) {a0 a : Nat} {c0 c1 : ClassId} {N0 N1 : Nat} {f g0 : Nat → Int8} (ha0 : ws[q0]? = some (a0, .inl (c0, N0, .inl (zBy f)))) (ha1 : ws[q1]? = some (a, .inl (c1, N1, .inl (zBy g0)))) (ht0 : tys[t0]? = some (c0, .byte)) (ht1 : tys[t1]? = some (c1, .byte)) {sp dp n : Int32} (i j k9 : Nat) (hsp : sp = nI i) (hdp : dp = nI j) (hn : n = nI k9) (hi : i + k9 ≤ N0) (hj : j + k9 ≤ N1) (hb0 : N0 < 2147483648) (hb1 : N1 < 2147483648) {ws' : va_W} (hw : ws.set q1 (a, .inl (c1, N1, .inl (zBy (va_cpy f g0 i j k9)))) = ws') (hf : 1 ≤ R.frames) (hlo : (st.map fun v => v.category).sum + (nativeFrameWords "java/lang/System" "arraycopy" 5 + 11) ≤ R.locals) (d : decode cc pc = .ok (.invokestatic index, 3)) (k : zW p l e R s m args below meth c nL D A Q cells slots ws' lv st (pc + 3)) : zW p l e R s m args below meth c nL D A Q cells slots ws lv (.int n :: .int dp :: .ref a :: .int sp :: .ref a0 :: st) pc := fun H locs ls hP hD hS hl => by
  subst hsp; subst hdp; subst hn
  have e0 := nI_clamp (show i < 2147483648 by omega)
  have e1 := nI_clamp (show j < 2147483648 by omega)
  have e2 := nI_clamp (show k9 < 2147483648 by omega)
  refine va_copyi F.1.1 F.1.2.1 (F.1.2.2.1.trans hl.1.symm) F.1.2.2.2.1 (F.1.2.2.2.2 _ h1) (F.1.2.2.2.2 _ h2) (F.1.2.2.2.2 _ h3) (F.1.2.2.2.2 _ h4) F.2.1 hP hD hS q0 q1 t0 t1 ha0 ha1 ht0 ht1 rfl (nI_pos (by omega)) (nI_pos (by omega)) (nI_pos (by omega)) (by rw [e0, e2]; exact hi) (by rw [e1, e2]; exact hj) (fun x _ => z_fb f _) hf hlo d (fun H1 locs1 hP1 hD1 hS1 => ?_)
  rw [e0, e1, e2, z_cpB] at hP1 hD1
  exact k H1 locs1 ls (hw ▸ hP1) (hw ▸ hD1) hS1 hl
end ZJ
