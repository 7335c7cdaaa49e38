/-! THE LAYER OF THE LAW: an object's cells as one piece -/
theorem z_ndI : ∀ (l : List Nat), l.Nodup → va_nd l = true
  | [], _ => rfl
  | a :: l, h => by
    have h1 := List.nodup_cons.mp h
    show (decide (a ∉ l) && va_nd l) = true
    rw [z_ndI l h1.2, decide_eq_true h1.1]
    rfl
theorem z_ndE : ∀ (l : List Nat), va_nd l = true → l.Nodup
  | [], _ => List.nodup_nil
  | a :: l, h => by
    have h1 : (decide (a ∉ l) && va_nd l) = true := h
    rw [Bool.and_eq_true] at h1
    exact List.nodup_cons.mpr ⟨of_decide_eq_true h1.1, z_ndE l h1.2⟩
theorem z_pickL (X Y : va_W) : (List.range X.length).map (fun i => (X ++ Y)[i]?) = X.map some := by
  apply List.ext_getElem?
  intro i
  rw [List.getElem?_map, List.getElem?_map]
  by_cases h : i < X.length
  · rw [List.getElem?_range h, List.getElem?_eq_getElem h]
    show some ((X ++ Y)[i]?) = some (some X[i])
    rw [List.getElem?_append_left h, List.getElem?_eq_getElem h]
  · rw [List.getElem?_eq_none (by rw [List.length_range]; omega), List.getElem?_eq_none (by omega)]
    rfl
theorem z_pickR (X Y : va_W) : ((List.range Y.length).map (fun i => X.length + i)).map (fun i => (X ++ Y)[i]?) = Y.map some := by
  rw [List.map_map]
  apply List.ext_getElem?
  intro i
  rw [List.getElem?_map, List.getElem?_map]
  by_cases h : i < Y.length
  · rw [List.getElem?_range h, List.getElem?_eq_getElem h]
    show some ((X ++ Y)[X.length + i]?) = some (some Y[i])
    rw [List.getElem?_append_right (Nat.le_add_right _ _), Nat.add_sub_cancel_left, List.getElem?_eq_getElem h]
  · rw [List.getElem?_eq_none (by rw [List.length_range]; omega), List.getElem?_eq_none (by omega)]
    rfl
theorem z_ndR (a n : Nat) : va_nd ((List.range n).map (fun i => a + i)) = true := by
  apply z_ndI
  rw [List.Nodup, List.pairwise_map]
  exact (List.nodup_range (n := n)).imp (fun h q => h (by omega))
theorem z_ndJ {n : Nat} {isR : List Nat} (h1 : va_nd isR = true) (h2 : isR.all (fun i => decide (n ≤ i)) = true) : va_nd (List.range n ++ isR) = true := by
  apply z_ndI
  rw [List.nodup_append]
  refine ⟨List.nodup_range, z_ndE _ h1, fun a ha b hb q => ?_⟩
  have h3 := List.mem_range.mp ha
  have h4 := of_decide_eq_true (List.all_eq_true.mp h2 b hb)
  omega
theorem z_pickA {X Y wr wrc : va_W} {isR : List Nat} (hR : isR.map (fun i => (X ++ Y ++ wr)[i]?) = wrc.map some) : (List.range X.length ++ isR).map (fun i => (X ++ Y ++ wr)[i]?) = (X ++ wrc).map some := by
  rw [List.map_append, List.map_append, hR]
  congr 1
  rw [List.append_assoc]
  exact z_pickL X (Y ++ wr)
theorem z_swap {X Y W : va_W} (h : W.length = X.length) : ((List.range X.length).map (fun i => Y.length + i) ++ List.range Y.length).map (fun i => (Y ++ W)[i]?) = (W ++ Y).map some := by
  rw [List.map_append, List.map_append, ← h]
  congr 1
  · exact z_pickR Y W
  · exact z_pickL Y W
theorem z_ndS (a n : Nat) : va_nd ((List.range n).map (fun i => a + i) ++ List.range a) = true := by
  apply z_ndI
  rw [List.nodup_append]
  refine ⟨z_ndE _ (z_ndR a n), List.nodup_range, fun x hx y hy q => ?_⟩
  obtain ⟨i, _, rfl⟩ := List.mem_map.mp hx
  have := List.mem_range.mp hy
  omega
theorem z_offs (X Y : va_W) (is : List Nat) : (is.map (fun i => X.length + i)).map (fun i => (X ++ Y)[i]?) = is.map (fun i => Y[i]?) := by
  rw [List.map_map]
  apply List.map_congr_left
  intro i _
  show (X ++ Y)[X.length + i]? = Y[i]?
  rw [List.getElem?_append_right (Nat.le_add_right _ _), Nat.add_sub_cancel_left]
theorem z_ndM (n : Nat) : ∀ (is : List Nat), va_nd is = true → va_nd (is.map (fun i => n + i)) = true := fun is h => by
  apply z_ndI
  rw [List.Nodup, List.pairwise_map]
  exact (z_ndE is h).imp (fun h q => h (by omega))
theorem z_geM (n : Nat) (is : List Nat) : (is.map (fun i => n + i)).all (fun i => decide (n ≤ i)) = true := by
  rw [List.all_eq_true]
  intro x hx
  obtain ⟨i, _, rfl⟩ := List.mem_map.mp hx
  exact decide_eq_true (Nat.le_add_right _ _)
theorem z_pickN {X Y wn : va_W} {isN : List Nat} (hN : isN.map (fun i => Y[i]?) = wn.map some) : (List.range X.length ++ isN.map (fun i => X.length + i)).map (fun i => (X ++ Y)[i]?) = (X ++ wn).map some := by
  rw [List.map_append, List.map_append, z_offs X Y isN, hN]
  congr 1
  exact z_pickL X Y
theorem z_disY {n : Nat} {isC isN : List Nat} (hdis : ∀ i ∈ isN, i ∉ isC) : ∀ i ∈ List.range n ++ isN.map (fun i => n + i), i ∉ isC.map (fun i => n + i) := fun i hi q => by
  obtain ⟨j, hj, rfl⟩ := List.mem_map.mp q
  rcases List.mem_append.mp hi with h | h
  · have := List.mem_range.mp h
    omega
  · obtain ⟨j2, hj2, e⟩ := List.mem_map.mp h
    have : j2 = j := by omega
    subst this
    exact hdis _ hj2 hj
section ZLL
variable {p : Program} {l : Launch} {e : Env} {R : Room} {s : State} {m : MethodId} {args : Array Value} {below : List Frame} {meth : Method} {c : Code} {cells slots : Nat} {Q : State → Prop}
variable {cc : ByteArray} {nL : Nat} {own : String} {Ts : List Cond} {D : va_G} {tys : List (ClassId × FieldType)} {A : Nat → Prop} {wr ws : va_W} {lv : List (Nat × Value)} {st : List Value} {pc : Nat} {H : Heap} {locs : List Loc}
theorem z_sysS (F : zF p s m args meth c cc nL own Ts D tys A wr) {P0 : zE} (ok : zOK P0) (E : P0 A s s.heap) {y : MethodName} {bytes : ByteArray} {maxL index n mc ms : Nat} {ret : Option FieldType} {wsy : List Cond} {rm : Room} {Qc : Nat → Array Value → State → Outcome → State → Prop} {X Y wrc : va_W} {As : List Value} (hM : ∀ sz, Met l y wsy rm (zPc D tys P0 As X wrc sz) (Qc sz) mc ms (va_A X sz)) (cw : CallB R s args own index y bytes maxL ret wsy rm mc ms n ∧ (Cond.static y).before args s = true) (hws : ws = X ++ Y) (isR : List Nat) (hR : isR.map (fun i => (X ++ Y ++ wr)[i]?) = wrc.map some) (hge : isR.all (fun i => decide (X.length ≤ i)) = true) (hn : va_nd isR = true) (hlen : As.length = n) {sk : List Value} (hsk : sk = As.reverse ++ st) (hW : (st.map fun v => v.category).sum ≤ 8) (d : decode cc pc = .ok (.invokestatic index, 3)) (hf : cells + mc ≤ R.cells ∧ slots + ms ≤ R.slots) : zR p l e R s m args below meth c nL D A cells slots mc ms ws lv sk pc st X (fun sz => Qc sz As.toArray) := by
  subst hws
  exact z_runS F ok E hM cw (List.range X.length) isR (z_pickL X Y) (z_pickA hR) (z_ndJ hn hge) hlen hsk hW d hf
theorem z_sysW (F : zF p s m args meth c cc nL own Ts D tys A wr) {P0 : zE} (ok : zOK P0) (E : P0 A s s.heap) {y : MethodName} {bytes : ByteArray} {maxL index n mc ms : Nat} {ret : Option FieldType} {wsy : List Cond} {rm : Room} {Qc : Nat → Array Value → State → Outcome → State → Prop} {X Y wrc : va_W} {As : List Value} {hh : List (Nat × Nat × Nat × Nat)} (hM : ∀ sz, Met l y wsy rm (zPc D tys P0 As X wrc sz) (Qc sz) mc ms (va_A X sz)) (cw : vx_CSW R s args own index y bytes maxL ret hh wsy rm mc ms n) (hws : ws = X ++ Y) (isR : List Nat) (hR : isR.map (fun i => (X ++ Y ++ wr)[i]?) = wrc.map some) (hge : isR.all (fun i => decide (X.length ≤ i)) = true) (hn : va_nd isR = true) (hlen : As.length = n) {sk : List Value} (hsk : sk = As.reverse ++ st) (hW : (st.map fun v => v.category).sum ≤ 8) (d : decode cc pc = .ok (.invokestatic index, 3)) (hf : cells + mc ≤ R.cells ∧ slots + ms ≤ R.slots) : zR p l e R s m args below meth c nL D A cells slots mc ms ws lv sk pc st X (fun sz => Qc sz As.toArray) := by
  subst hws
  exact z_runSW F ok E hM cw (List.range X.length) isR (z_pickL X Y) (z_pickA hR) (z_ndJ hn hge) hlen hsk hW d hf
theorem z_sysV (F : zF p s m args meth c cc nL own Ts D tys A wr) {P0 : zE} (ok : zOK P0) (E : P0 A s s.heap) {y : MethodName} {bytes : ByteArray} {maxL index n mc ms : Nat} {ret : Option FieldType} {wsy : List Cond} {rm : Room} {Qc : Nat → Array Value → State → Outcome → State → Prop} {X Y wrc : va_W} {As : List Value} {b : Nat} {C : String} (hM : ∀ sz, Met l y wsy rm (zPc D tys P0 (.ref b :: As) X wrc sz) (Qc sz) mc ms (va_A X sz)) (cw : CallW R s args own C index y bytes maxL ret wsy rm mc ms n) (q0 : Nat) {ci : Nat} {fs : List Value} {q : vw_C} (hq : (ws ++ wr)[q0]? = some (b, .inr (ci, fs))) (hc : vwCl[ci]? = some q) (hqC : q.1 = C) (hws : ws = X ++ Y) (isR : List Nat) (hR : isR.map (fun i => (X ++ Y ++ wr)[i]?) = wrc.map some) (hge : isR.all (fun i => decide (X.length ≤ i)) = true) (hn : va_nd isR = true) (hlen : As.length = n) {sk : List Value} (hsk : sk = As.reverse ++ .ref b :: st) (hW : (st.map fun v => v.category).sum ≤ 8) (d : decode cc pc = .ok (.invokevirtual index, 3)) (hf : cells + mc ≤ R.cells ∧ slots + ms ≤ R.slots) : zR p l e R s m args below meth c nL D A cells slots mc ms ws lv sk pc st X (fun sz => Qc sz (.ref b :: As).toArray) := by
  subst hws
  exact z_runV F ok E hM cw q0 hq hc hqC (List.range X.length) isR (z_pickL X Y) (z_pickA hR) (z_ndJ hn hge) hlen hsk hW d hf
theorem z_Yv (F : zF p s m args meth c cc nL own Ts D tys A wr) {S : Type} {post : S → Prop} {X Y ww wn : va_W} {ww' wf : S → va_W} {mc ms : Nat} {a : Array Value} {sk : List Value} (hr : zR p l e R s m args below meth c nL D A cells slots mc ms ws lv sk pc st ww (fun sz => zQv D ww post ww' sz a)) (hws : ws = X ++ Y) (isC isN perm : List Nat) (hC : isC.map (fun i => Y[i]?) = ww.map some) (hN : isN.map (fun i => Y[i]?) = wn.map some) (hnd : va_nd isN = true) (hdis : ∀ i ∈ isN, i ∉ isC) (hpn : va_nd perm = true) (hf : ∀ u, perm.map (fun i => (wn ++ ww' u)[i]?) = (wf u).map some) (k : ∀ (u : S), post u → zW p l e R s m args below meth c nL D A Q (cells + mc) (slots + ms) (X ++ wf u) lv st (pc + 3)) : zW p l e R s m args below meth c nL D A Q cells slots ws lv sk pc := by
  subst hws
  exact z_callv (wf := fun u => X ++ wf u) F hr (isC.map (fun i => X.length + i)) (List.range X.length ++ isN.map (fun i => X.length + i)) (List.range X.length ++ perm.map (fun i => X.length + i)) ((z_offs X Y isC).trans hC) (z_pickN hN) (z_ndJ (z_ndM _ _ hnd) (z_geM _ _)) (z_disY hdis) (z_ndJ (z_ndM _ _ hpn) (z_geM _ _)) (fun u => by rw [List.append_assoc]; exact z_pickN (hf u)) k
theorem z_Ye (F : zF p s m args meth c cc nL own Ts D tys A wr) {ad : Nat → Nat} {S : Type} {post : Option Nat → S → Prop} {X Y ww wn : va_W} {ww' wf : S → va_W} {mc ms : Nat} {a : Array Value} {sk : List Value} (hr : zR p l e R s m args below meth c nL D A cells slots mc ms ws lv sk pc st ww (fun sz => zQe ad D ww post ww' sz a)) (hws : ws = X ++ Y) (isC isN perm : List Nat) (hC : isC.map (fun i => Y[i]?) = ww.map some) (hN : isN.map (fun i => Y[i]?) = wn.map some) (hnd : va_nd isN = true) (hdis : ∀ i ∈ isN, i ∉ isC) (hpn : va_nd perm = true) (hf : ∀ u, perm.map (fun i => (wn ++ ww' u)[i]?) = (wf u).map some) (k : ∀ (r : Option Nat) (u : S), post r u → zW p l e R s m args below meth c nL D A Q (cells + mc) (slots + ms) (X ++ wf u) lv (va_re ad r :: st) (pc + 3)) : zW p l e R s m args below meth c nL D A Q cells slots ws lv sk pc := by
  subst hws
  exact z_calle (wf := fun u => X ++ wf u) F hr (isC.map (fun i => X.length + i)) (List.range X.length ++ isN.map (fun i => X.length + i)) (List.range X.length ++ perm.map (fun i => X.length + i)) ((z_offs X Y isC).trans hC) (z_pickN hN) (z_ndJ (z_ndM _ _ hnd) (z_geM _ _)) (z_disY hdis) (z_ndJ (z_ndM _ _ hpn) (z_geM _ _)) (fun u => by rw [List.append_assoc]; exact z_pickN (hf u)) k
theorem z_Yr (F : zF p s m args meth c cc nL own Ts D tys A wr) {S : Type} {post : S → Prop} {X Y ww wn : va_W} {ww' wf : S → Nat → va_W} {mc ms : Nat} {a : Array Value} {sk : List Value} (hr : zR p l e R s m args below meth c nL D A cells slots mc ms ws lv sk pc st ww (fun sz => zQr D ww post ww' sz a)) (hws : ws = X ++ Y) (isC isN perm : List Nat) (hC : isC.map (fun i => Y[i]?) = ww.map some) (hN : isN.map (fun i => Y[i]?) = wn.map some) (hnd : va_nd isN = true) (hdis : ∀ i ∈ isN, i ∉ isC) (hpn : va_nd perm = true) (hf : ∀ u b, perm.map (fun i => (wn ++ ww' u b)[i]?) = (wf u b).map some) (k : ∀ (u : S) (b : Nat), post u → zW p l e R s m args below meth c nL D A Q (cells + mc) (slots + ms) (X ++ wf u b) lv (.ref b :: st) (pc + 3)) : zW p l e R s m args below meth c nL D A Q cells slots ws lv sk pc := by
  subst hws
  exact z_callr (wf := fun u b => X ++ wf u b) F hr (isC.map (fun i => X.length + i)) (List.range X.length ++ isN.map (fun i => X.length + i)) (List.range X.length ++ perm.map (fun i => X.length + i)) ((z_offs X Y isC).trans hC) (z_pickN hN) (z_ndJ (z_ndM _ _ hnd) (z_geM _ _)) (z_disY hdis) (z_ndJ (z_ndM _ _ hpn) (z_geM _ _)) (fun u b => by rw [List.append_assoc]; exact z_pickN (hf u b)) k
theorem z_sysi (F : zF p s m args meth c cc nL own Ts D tys A wr) {S : Type} {post : Int32 → S → Prop} {X Y : va_W} {ww' wf : S → va_W} {mc ms : Nat} {a : Array Value} {sk : List Value} (hr : zR p l e R s m args below meth c nL D A cells slots mc ms ws lv sk pc st X (fun sz => zQi D X post ww' sz a)) (hws : ws = X ++ Y) (hle : ∀ u, (ww' u).length = X.length) (hwf : ∀ u, ww' u ++ Y = wf u) (k : ∀ (r : Int32) (u : S), post r u → zW p l e R s m args below meth c nL D A Q (cells + mc) (slots + ms) (wf u) lv (.int r :: st) (pc + 3)) : zW p l e R s m args below meth c nL D A Q cells slots ws lv sk pc := by
  subst hws
  exact z_calli F hr (List.range X.length) ((List.range Y.length).map (fun i => X.length + i)) ((List.range X.length).map (fun i => Y.length + i) ++ List.range Y.length) (z_pickL X Y) (z_pickR X Y) (z_ndR _ _) (fun i hi q => by
    obtain ⟨j, _, rfl⟩ := List.mem_map.mp hi
    have := List.mem_range.mp q
    omega) (z_ndS _ _) (fun u => by rw [← hwf u]; exact z_swap (hle u)) k
theorem z_sysl (F : zF p s m args meth c cc nL own Ts D tys A wr) {S : Type} {post : Int64 → S → Prop} {X Y : va_W} {ww' wf : S → va_W} {mc ms : Nat} {a : Array Value} {sk : List Value} (hr : zR p l e R s m args below meth c nL D A cells slots mc ms ws lv sk pc st X (fun sz => zQl D X post ww' sz a)) (hws : ws = X ++ Y) (hle : ∀ u, (ww' u).length = X.length) (hwf : ∀ u, ww' u ++ Y = wf u) (k : ∀ (r : Int64) (u : S), post r u → zW p l e R s m args below meth c nL D A Q (cells + mc) (slots + ms) (wf u) lv (.long r :: st) (pc + 3)) : zW p l e R s m args below meth c nL D A Q cells slots ws lv sk pc := by
  subst hws
  exact z_calll F hr (List.range X.length) ((List.range Y.length).map (fun i => X.length + i)) ((List.range X.length).map (fun i => Y.length + i) ++ List.range Y.length) (z_pickL X Y) (z_pickR X Y) (z_ndR _ _) (fun i hi q => by
    obtain ⟨j, _, rfl⟩ := List.mem_map.mp hi
    have := List.mem_range.mp q
    omega) (z_ndS _ _) (fun u => by rw [← hwf u]; exact z_swap (hle u)) k
theorem z_sysd (F : zF p s m args meth c cc nL own Ts D tys A wr) {S : Type} {post : UInt64 → S → Prop} {X Y : va_W} {ww' wf : S → va_W} {mc ms : Nat} {a : Array Value} {sk : List Value} (hr : zR p l e R s m args below meth c nL D A cells slots mc ms ws lv sk pc st X (fun sz => zQd D X post ww' sz a)) (hws : ws = X ++ Y) (hle : ∀ u, (ww' u).length = X.length) (hwf : ∀ u, ww' u ++ Y = wf u) (k : ∀ (r : UInt64) (u : S), post r u → zW p l e R s m args below meth c nL D A Q (cells + mc) (slots + ms) (wf u) lv (.double r :: st) (pc + 3)) : zW p l e R s m args below meth c nL D A Q cells slots ws lv sk pc := by
  subst hws
  exact z_calld F hr (List.range X.length) ((List.range Y.length).map (fun i => X.length + i)) ((List.range X.length).map (fun i => Y.length + i) ++ List.range Y.length) (z_pickL X Y) (z_pickR X Y) (z_ndR _ _) (fun i hi q => by
    obtain ⟨j, _, rfl⟩ := List.mem_map.mp hi
    have := List.mem_range.mp q
    omega) (z_ndS _ _) (fun u => by rw [← hwf u]; exact z_swap (hle u)) k
theorem z_sysf (F : zF p s m args meth c cc nL own Ts D tys A wr) {S : Type} {post : UInt32 → S → Prop} {X Y : va_W} {ww' wf : S → va_W} {mc ms : Nat} {a : Array Value} {sk : List Value} (hr : zR p l e R s m args below meth c nL D A cells slots mc ms ws lv sk pc st X (fun sz => zQf D X post ww' sz a)) (hws : ws = X ++ Y) (hle : ∀ u, (ww' u).length = X.length) (hwf : ∀ u, ww' u ++ Y = wf u) (k : ∀ (r : UInt32) (u : S), post r u → zW p l e R s m args below meth c nL D A Q (cells + mc) (slots + ms) (wf u) lv (.float r :: st) (pc + 3)) : zW p l e R s m args below meth c nL D A Q cells slots ws lv sk pc := by
  subst hws
  exact z_callf F hr (List.range X.length) ((List.range Y.length).map (fun i => X.length + i)) ((List.range X.length).map (fun i => Y.length + i) ++ List.range Y.length) (z_pickL X Y) (z_pickR X Y) (z_ndR _ _) (fun i hi q => by
    obtain ⟨j, _, rfl⟩ := List.mem_map.mp hi
    have := List.mem_range.mp q
    omega) (z_ndS _ _) (fun u => by rw [← hwf u]; exact z_swap (hle u)) k
theorem z_sysv (F : zF p s m args meth c cc nL own Ts D tys A wr) {S : Type} {post : S → Prop} {X Y : va_W} {ww' wf : S → va_W} {mc ms : Nat} {a : Array Value} {sk : List Value} (hr : zR p l e R s m args below meth c nL D A cells slots mc ms ws lv sk pc st X (fun sz => zQv D X post ww' sz a)) (hws : ws = X ++ Y) (hle : ∀ u, (ww' u).length = X.length) (hwf : ∀ u, ww' u ++ Y = wf u) (k : ∀ u : S, post u → zW p l e R s m args below meth c nL D A Q (cells + mc) (slots + ms) (wf u) lv st (pc + 3)) : zW p l e R s m args below meth c nL D A Q cells slots ws lv sk pc := by
  subst hws
  exact z_callv F hr (List.range X.length) ((List.range Y.length).map (fun i => X.length + i)) ((List.range X.length).map (fun i => Y.length + i) ++ List.range Y.length) (z_pickL X Y) (z_pickR X Y) (z_ndR _ _) (fun i hi q => by
    obtain ⟨j, _, rfl⟩ := List.mem_map.mp hi
    have := List.mem_range.mp q
    omega) (z_ndS _ _) (fun u => by rw [← hwf u]; exact z_swap (hle u)) k
/-- only the object is kept -/
theorem z_drop {X Y : va_W} (hws : ws = X ++ Y) (k : zW p l e R s m args below meth c nL D A Q cells slots X lv st pc) : zW p l e R s m args below meth c nL D A Q cells slots ws lv st pc := fun H locs ls hP hD hS hl => by
  subst hws
  refine k H locs ls (fun i q hq => hP i q ?_) ⟨fun i j x y hx hy => hD.1 i j x y ?_ ?_, fun i q hq => hD.2 i q ?_⟩ hS hl
  · rw [List.getElem?_append_left (List.getElem?_eq_some_iff.mp hq).1]; exact hq
  · rw [List.getElem?_append_left (List.getElem?_eq_some_iff.mp hx).1]; exact hx
  · rw [List.getElem?_append_left (List.getElem?_eq_some_iff.mp hy).1]; exact hy
  · rw [List.getElem?_append_left (List.getElem?_eq_some_iff.mp hq).1]; exact hq
/-- the law's own script -/
theorem z_sld (F : zF p s m args meth c cc nL own Ts D tys A wr) {sb sn : Nat} {xs : Nat → Int32} (hX : zX sb sn xs A s s.heap) {i : Int32} (hin : vp_in i sn) (d : decode cc pc = .ok (.iaload, 1)) (k : zW p l e R s m args below meth c nL D A Q cells slots ws lv (.int (xs i.toNatClampNeg) :: st) (pc + 1)) : zW p l e R s m args below meth c nL D A Q cells slots ws lv (.int i :: .ref sb :: st) pc := fun H locs ls hP hD hS hl => va_sld F.1.1 F.1.2.1 hX.1 hX.2.1 hX.2.2.1 hS hin d (k H locs ls hP hD hS hl)
theorem z_slen (F : zF p s m args meth c cc nL own Ts D tys A wr) {sb sn : Nat} {xs : Nat → Int32} (hX : zX sb sn xs A s s.heap) (d : decode cc pc = .ok (.arraylength, 1)) (k : zW p l e R s m args below meth c nL D A Q cells slots ws lv (.int (nI sn) :: st) (pc + 1)) : zW p l e R s m args below meth c nL D A Q cells slots ws lv (.ref sb :: st) pc := fun H locs ls hP hD hS hl => va_slen F.1.1 F.1.2.1 hX.1 hX.2.1 hX.2.2.1 hS d (k H locs ls hP hD hS hl)
theorem z_lcmp (F : zF p s m args meth c cc nL own Ts D tys A wr) {x y : Int64} (d : decode cc pc = .ok (.lcmp, 1)) (k : zW p l e R s m args below meth c nL D A Q cells slots ws lv (.int (lg_cmp x y) :: st) (pc + 1)) : zW p l e R s m args below meth c nL D A Q cells slots ws lv (.long y :: .long x :: st) pc := fun H locs ls hP hD hS hl => W.lcmp F.1.1 F.1.2.1 d (k H locs ls hP hD hS hl)
theorem z_topL {x y : Int64} (h : x = y) (k : zW p l e R s m args below meth c nL D A Q cells slots ws lv (.long y :: st) pc) : zW p l e R s m args below meth c nL D A Q cells slots ws lv (.long x :: st) pc := h ▸ k
theorem z_topD {x y : UInt64} (h : x = y) (k : zW p l e R s m args below meth c nL D A Q cells slots ws lv (.double y :: st) pc) : zW p l e R s m args below meth c nL D A Q cells slots ws lv (.double x :: st) pc := h ▸ k
theorem z_topF {x y : UInt32} (h : x = y) (k : zW p l e R s m args below meth c nL D A Q cells slots ws lv (.float y :: st) pc) : zW p l e R s m args below meth c nL D A Q cells slots ws lv (.float x :: st) pc := h ▸ k
theorem z_dcmp (F : zF p s m args meth c cc nL own Ts D tys A wr) {x y : UInt64} {op : CmpOp} (d : decode cc pc = .ok (.dcmp op, 1)) (k : zW p l e R s m args below meth c nL D A Q cells slots ws lv (.int (Op.cmpValue (FP.dcmp x y) op) :: st) (pc + 1)) : zW p l e R s m args below meth c nL D A Q cells slots ws lv (.double y :: .double x :: st) pc := fun H locs ls hP hD hS hl => lv_dcmp F.1.1 F.1.2.1 d (k H locs ls hP hD hS hl)
theorem z_fcmp (F : zF p s m args meth c cc nL own Ts D tys A wr) {x y : UInt32} {op : CmpOp} (d : decode cc pc = .ok (.fcmp op, 1)) (k : zW p l e R s m args below meth c nL D A Q cells slots ws lv (.int (Op.cmpValue (FP.fcmp x y) op) :: st) (pc + 1)) : zW p l e R s m args below meth c nL D A Q cells slots ws lv (.float y :: .float x :: st) pc := fun H locs ls hP hD hS hl => lv_fcmp F.1.1 F.1.2.1 d (k H locs ls hP hD hS hl)
theorem z_d2l (F : zF p s m args meth c cc nL own Ts D tys A wr) {index : Nat} (h1 : Cond.methodLink own index ⟨"java/lang/Double", "doubleToRawLongBits", "(D)J"⟩ ∈ Ts) (h2 : Cond.native ⟨"java/lang/Double", "doubleToRawLongBits", "(D)J"⟩ ∈ Ts) (h3 : Cond.static ⟨"java/lang/Double", "doubleToRawLongBits", "(D)J"⟩ ∈ Ts) (h4 : Cond.initialized "java/lang/Double" ∈ Ts) {b : UInt64} (hf : 1 ≤ R.frames) (hlo : (st.map fun v => v.category).sum + 15 ≤ R.locals) (d : decode cc pc = .ok (.invokestatic index, 3)) (k : zW p l e R s m args below meth c nL D A Q cells slots ws lv (.long b.toInt64 :: st) (pc + 3)) : zW p l e R s m args below meth c nL D A Q cells slots ws lv (.double b :: st) pc := fun H locs ls hP hD hS hl => vn_d2l F.1.1 F.1.2.1 (F.1.2.2.1.trans hl.1.symm) F.1.2.2.2.1 (F.1.2.2.2.2 _ h1) (F.1.2.2.2.2 _ h2) (F.1.2.2.2.2 _ h3) (F.1.2.2.2.2 _ h4) hf hlo d (k H locs ls hP hD hS hl)
theorem z_f2i (F : zF p s m args meth c cc nL own Ts D tys A wr) {index : Nat} (h1 : Cond.methodLink own index ⟨"java/lang/Float", "floatToRawIntBits", "(F)I"⟩ ∈ Ts) (h2 : Cond.native ⟨"java/lang/Float", "floatToRawIntBits", "(F)I"⟩ ∈ Ts) (h3 : Cond.static ⟨"java/lang/Float", "floatToRawIntBits", "(F)I"⟩ ∈ Ts) (h4 : Cond.initialized "java/lang/Float" ∈ Ts) {b : UInt32} (hf : 1 ≤ R.frames) (hlo : (st.map fun v => v.category).sum + 15 ≤ R.locals) (d : decode cc pc = .ok (.invokestatic index, 3)) (k : zW p l e R s m args below meth c nL D A Q cells slots ws lv (.int b.toInt32 :: st) (pc + 3)) : zW p l e R s m args below meth c nL D A Q cells slots ws lv (.float b :: st) pc := fun H locs ls hP hD hS hl => vn_f2i F.1.1 F.1.2.1 (F.1.2.2.1.trans hl.1.symm) F.1.2.2.2.1 (F.1.2.2.2.2 _ h1) (F.1.2.2.2.2 _ h2) (F.1.2.2.2.2 _ h3) (F.1.2.2.2.2 _ h4) hf hlo d (k H locs ls hP hD hS hl)
theorem z_ldcs (F : zF p s m args meth c cc nL own Ts D tys A wr) {index a9 : Nat} {tx : String} (hR : vk_R own index tx a9 s) (d : decode cc pc = .ok (.ldc index, 2)) (k : zW p l e R s m args below meth c nL D A Q cells slots ws lv (.ref a9 :: st) (pc + 2)) : zW p l e R s m args below meth c nL D A Q cells slots ws lv st pc := fun H locs ls hP hD hS hl => va_ldcS F.1.1 F.1.2.1 F.1.2.2.2.1 hR d (k H locs ls hP hD hS hl)
theorem z_ldcsw (F : zF p s m args meth c cc nL own Ts D tys A wr) {index a9 : Nat} {tx : String} (hR : vk_R own index tx a9 s) (d : decode cc pc = .ok (.ldc_w index, 3)) (k : zW p l e R s m args below meth c nL D A Q cells slots ws lv (.ref a9 :: st) (pc + 3)) : zW p l e R s m args below meth c nL D A Q cells slots ws lv st pc := fun H locs ls hP hD hS hl => by
  intro T hT X
  obtain ⟨t, a1, b1⟩ := k H locs ls hP hD hS hl T hT X
  exact ⟨t, X.ldcStringW F.1.1 F.1.2.2.2.1 (text := tx) (a := a9) hR.1 hR.2 (g := F0 m pc ls st) rfl (by rw [F.1.2.1]; exact d) t a1, b1⟩
end ZLL
