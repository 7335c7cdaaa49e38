/-! COMMANDS -/
/-- the constants of an enumeration, as objects: its statics aside -/
def zVn (E _d : String) (nm : List String) (F : List (String × String × String × List Int32)) (ad : Nat → Nat) (A : Nat → Prop) (U : State) (H : Heap) : Prop := (∀ i, i < nm.length → va_O E (ad i) A U H ∧ ∀ q ∈ F, va_OF q.1 q.2.1 q.2.2.1 (.int (q.2.2.2.getD i 0)) (ad i) A U H) ∧ (∀ i j, i < nm.length → j < nm.length → ad i = ad j → i = j)
theorem zVn.moved {E d : String} {nm : List String} {F : List (String × String × String × List Int32)} {ad : Nat → Nat} {A : Nat → Prop} {u U : State} {H : Heap} (hvm : u.vm.Alike U.vm) (h : zVn E d nm F ad A u H) : zVn E d nm F ad A U H := ⟨fun i hi => ⟨va_O.moved hvm (h.1 i hi).1, fun q hq => va_OF.moved hvm ((h.1 i hi).2 q hq)⟩, h.2⟩
theorem zVn.kept {E d : String} {nm : List String} {F : List (String × String × String × List Int32)} {ad : Nat → Nat} {A : Nat → Prop} {U : State} {H H1 : Heap} (h : zVn E d nm F ad A U H) (hq : ∀ a : Nat, a < H.size → ¬ A a → H1[a]? = H[a]?) : zVn E d nm F ad A U H1 := ⟨fun i hi => ⟨(h.1 i hi).1.kept hq, fun q h9 => ((h.1 i hi).2 q h9).kept hq⟩, h.2⟩
theorem zVn.narrow {E d : String} {nm : List String} {F : List (String × String × String × List Int32)} {ad : Nat → Nat} {A B : Nat → Prop} {U : State} {H : Heap} (h : zVn E d nm F ad A U H) (hAB : ∀ q, B q → A q) : zVn E d nm F ad B U H := ⟨fun i hi => ⟨(h.1 i hi).1.narrow hAB, fun q h9 => ((h.1 i hi).2 q h9).narrow hAB⟩, h.2⟩
def zCm (D : va_G) (g : Nat → ClassId) (ec fs fv : Nat → Nat) (qa : Nat) : zE := fun A U H => va_Z "DebtClearing$CommandText" "COMMANDS" "[LDebtClearing$Command;" (.ref qa) A U H ∧ va_T (.object "DebtClearing$Command") qa 8 (fun k => .ref (ec k)) A U H ∧ zVn "DebtClearing$Command" "LDebtClearing$Command;" ["MEMBER", "DEBT", "PAY", "NET", "RING", "CLEAR", "PLEDGE", "FAIL"] [("java/lang/Enum", "ordinal", "I", [0, 1, 2, 3, 4, 5, 6, 7])] ec A U H ∧ va_Ef 8 "DebtClearing$Command" "form" "Ljava/lang/String;" (fun i => .ref (fs i)) ec A U H ∧ zSk fs fv A U H
theorem zCm_ok (D : va_G) (g : Nat → ClassId) (ec fs fv : Nat → Nat) (qa : Nat) : zOK (zCm D g ec fs fv qa) := ⟨fun _ _ _ _ h k => ⟨k.1.moved h.alike, va_T.moved h.alike k.2.1, zVn.moved h.alike k.2.2.1, va_Ef.moved h.alike k.2.2.2.1, (zSk_ok fs fv).1 _ _ _ _ h k.2.2.2.2⟩,
  fun _ _ _ _ h k => ⟨k.1.kept h, va_T.kept k.2.1 h, zVn.kept k.2.2.1 h, va_Ef.kept k.2.2.2.1 h, (zSk_ok fs fv).2.1 _ _ _ _ h k.2.2.2.2⟩,
  fun _ _ _ _ h k => ⟨k.1.narrow h, va_T.narrow k.2.1 h, zVn.narrow k.2.2.1 h, va_Ef.narrow k.2.2.2.1 h, (zSk_ok fs fv).2.2 _ _ _ _ h k.2.2.2.2⟩⟩
def zEnv3 (er : Nat → Nat) (D : va_G) (g : Nat → ClassId) (dg ec fs fv : Nat → Nat) (qa : Nat) : zE := fun A U H => (zEnv er A U H ∧ zJ D g dg A U H) ∧ zCm D g ec fs fv qa A U H
theorem zEnv3_ok (er : Nat → Nat) (D : va_G) (g : Nat → ClassId) (dg ec fs fv : Nat → Nat) (qa : Nat) : zOK (zEnv3 er D g dg ec fs fv qa) := ⟨fun _ _ _ _ h k => ⟨⟨(zEnv_ok er).1 _ _ _ _ h k.1.1, (zJ_ok D g dg).1 _ _ _ _ h k.1.2⟩, (zCm_ok D g ec fs fv qa).1 _ _ _ _ h k.2⟩, fun _ _ _ _ h k => ⟨⟨(zEnv_ok er).2.1 _ _ _ _ h k.1.1, (zJ_ok D g dg).2.1 _ _ _ _ h k.1.2⟩, (zCm_ok D g ec fs fv qa).2.1 _ _ _ _ h k.2⟩, fun _ _ _ _ h k => ⟨⟨(zEnv_ok er).2.2 _ _ _ _ h k.1.1, (zJ_ok D g dg).2.2 _ _ _ _ h k.1.2⟩, (zCm_ok D g ec fs fv qa).2.2 _ _ _ _ h k.2⟩⟩
section ZC
variable {p : Program} {l : Launch} {e : Env} {R : Room} {s : State} {m : MethodId} {args : Array Value} {below : List Frame} {meth : Method} {c : Code} {cells slots : Nat} {Q : State → Prop}
variable {cc : ByteArray} {nL : Nat} {own : String} {Ts : List Cond} {D : va_G} {tys : List (ClassId × FieldType)} {A : Nat → Prop} {wr ws : va_W} {lv : List (Nat × Value)} {st : List Value} {pc : Nat} {H : Heap} {locs : List Loc}
/-- a place of a static array of references, that nothing here writes -/
theorem z_aldqE (F : zF p s m args meth c cc nL own Ts D tys A wr) {a0 : Nat} {C : String} {n : Nat} {f : Nat → Value} (hE : va_T (.object C) a0 n f A s s.heap) {j : Nat} (hj : j < n) (hn : n < 2147483648) {i : Int32} (hi : i = nI j) (d : decode cc pc = .ok (.aaload, 1)) (k : zW p l e R s m args below meth c nL D A Q cells slots ws lv (f j :: st) (pc + 1)) : zW p l e R s m args below meth c nL D A Q cells slots ws lv (.int i :: .ref a0 :: st) pc := fun H locs ls hP hD hS hl => by
  subst hi
  exact vb_tq F.1.1 F.1.2.1 hE hS (vp_in_nI hj hn) (by rw [nI_clamp (Nat.lt_trans hj hn)]) d (k H locs ls hP hD hS hl)
/-- a field of a constant, read by a nest mate -/
theorem z_getEN (F : zF p s m args meth c cc nL own Ts D tys A wr) {o n d9 host : String} {N : Nat} {v : Nat → Value} {ad : Nat → Nat} {index i : Nat} (hE : va_Ef N o n d9 v ad A s s.heap) (hi : i < N) (hlink : va_Nw (.fieldLinkNest own index o n d9 host) s) (d : decode cc pc = .ok (.getfield index, 3)) (k : zW p l e R s m args below meth c nL D A Q cells slots ws lv (v i :: st) (pc + 3)) : zW p l e R s m args below meth c nL D A Q cells slots ws lv (.ref (ad i) :: st) pc := fun H locs ls hP hD hS hl => by
  obtain ⟨cf, k9, fi, f, cell, h1, h2, h3, h4, h5, h6⟩ := (hE i hi).kept hS.2.1
  exact va_Wgetf F.1.1 F.1.2.1 F.1.2.2.2.1 (hlink.use rfl) h1 h2 h3 h4 (v := v i) h5 rfl rfl d (k H locs ls hP hD hS hl)
theorem z_null (F : zF p s m args meth c cc nL own Ts D tys A wr) (d : decode cc pc = .ok (.aconst_null, 1)) (k : zW p l e R s m args below meth c nL D A Q cells slots ws lv (.null :: st) (pc + 1)) : zW p l e R s m args below meth c nL D A Q cells slots ws lv st pc := fun H locs ls hP hD hS hl => lv_null F.1.1 F.1.2.1 d (k H locs ls hP hD hS hl)
theorem z_ifnn (F : zF p s m args meth c cc nL own Ts D tys A wr) {x : Nat} {off : Int} {tgt : Nat} (d : decode cc pc = .ok (.ifnonnull off, 3)) (ht : (pc : Int) + off = (tgt : Int)) (k : zW p l e R s m args below meth c nL D A Q cells slots ws lv st tgt) : zW p l e R s m args below meth c nL D A Q cells slots ws lv (.ref x :: st) pc := fun H locs ls hP hD hS hl => lv_ifnonnull F.1.1 F.1.2.1 d ht (k H locs ls hP hD hS hl)
theorem z_ifnnN (F : zF p s m args meth c cc nL own Ts D tys A wr) {off : Int} (d : decode cc pc = .ok (.ifnonnull off, 3)) (k : zW p l e R s m args below meth c nL D A Q cells slots ws lv st (pc + 3)) : zW p l e R s m args below meth c nL D A Q cells slots ws lv (.null :: st) pc := fun H locs ls hP hD hS hl => lv_ifnonnullN F.1.1 F.1.2.1 d (k H locs ls hP hD hS hl)
theorem z_ifn (F : zF p s m args meth c cc nL own Ts D tys A wr) {x : Nat} {off : Int} (d : decode cc pc = .ok (.ifnull off, 3)) (k : zW p l e R s m args below meth c nL D A Q cells slots ws lv st (pc + 3)) : zW p l e R s m args below meth c nL D A Q cells slots ws lv (.ref x :: st) pc := fun H locs ls hP hD hS hl => lv_ifnull F.1.1 F.1.2.1 d (k H locs ls hP hD hS hl)
theorem z_ifnN (F : zF p s m args meth c cc nL own Ts D tys A wr) {off : Int} {tgt : Nat} (d : decode cc pc = .ok (.ifnull off, 3)) (ht : (pc : Int) + off = (tgt : Int)) (k : zW p l e R s m args below meth c nL D A Q cells slots ws lv st tgt) : zW p l e R s m args below meth c nL D A Q cells slots ws lv (.null :: st) pc := fun H locs ls hP hD hS hl => lv_ifnullN F.1.1 F.1.2.1 d ht (k H locs ls hP hD hS hl)
end ZC
abbrev zC5 : Type := Option Nat × Nat × zR3
def f_cmF (tx : Nat → Int32) (ln x : Nat) : Nat → Nat → Nat → zR3 → zC5
  | 0, _, en, s => (none, en, s)
  | k + 1, i, en, s => if (f_fo tx ln (f_fl i) (f_fb i) x s.2.2).1 = 0 then f_cmF tx ln x k (i + 1) (max en (f_fo tx ln (f_fl i) (f_fb i) x s.2.2).2.1) (f_fo tx ln (f_fl i) (f_fb i) x s.2.2).2 else (some i, max en (f_fo tx ln (f_fl i) (f_fb i) x s.2.2).2.1, (f_fo tx ln (f_fl i) (f_fb i) x s.2.2).2)
theorem f_cmF_go {tx : Nat → Int32} {ln x k i en : Nat} {s : zR3} (h : (f_fo tx ln (f_fl i) (f_fb i) x s.2.2).1 = 0) : f_cmF tx ln x (k + 1) i en s = f_cmF tx ln x k (i + 1) (max en (f_fo tx ln (f_fl i) (f_fb i) x s.2.2).2.1) (f_fo tx ln (f_fl i) (f_fb i) x s.2.2).2 := if_pos h
theorem f_cmF_hit {tx : Nat → Int32} {ln x k i en : Nat} {s : zR3} (h : ¬ (f_fo tx ln (f_fl i) (f_fb i) x s.2.2).1 = 0) : f_cmF tx ln x (k + 1) i en s = (some i, max en (f_fo tx ln (f_fl i) (f_fb i) x s.2.2).2.1, (f_fo tx ln (f_fl i) (f_fb i) x s.2.2).2) := if_neg h
theorem f_st_le {tx : Nat → Int32} {ln : Nat} {c : Int32} {s : zR3} (hl : ln ≤ 60) (h : s.1 ≤ ln ∧ s.2.1 ≤ 3) : (f_st tx ln c s).2.1 ≤ ln ∧ (f_st tx ln c s).2.2.1 ≤ 3 := by
  have hN : ∀ v, (f_sN tx ln v s).2.1 ≤ ln ∧ (f_sN tx ln v s).2.2.1 ≤ 3 := fun v => by
    unfold f_sN
    by_cases q : f_hd tx ln s.1 = 0
    · rw [if_pos q]; exact h
    · rw [if_neg q]
      exact ⟨f_rR_le (z_hd q (by omega) (by omega)) (by omega), f_rC_le h.2⟩
  unfold f_st
  by_cases q1 : c = 35
  · rw [if_pos q1]; exact hN 0
  · rw [if_neg q1]
    by_cases q2 : c = 64
    · rw [if_pos q2]; exact hN 1
    · rw [if_neg q2]
      unfold f_sL
      by_cases q : f_hasAt tx ln s.1 c = 0
      · rw [if_pos q]; exact h
      · rw [if_neg q]
        exact ⟨z_hasAt q (by omega) (by omega), h.2⟩
theorem f_foF_le {tx : Nat → Int32} {ln : Nat} {sb : Nat → Int8} (hl : ln ≤ 60) : ∀ (k i : Nat) (s : zR3), s.1 ≤ ln ∧ s.2.1 ≤ 3 → (f_foF tx ln sb k i s).2.1 ≤ ln ∧ (f_foF tx ln sb k i s).2.2.1 ≤ 3
  | 0, _, s, h => h
  | k + 1, i, s, h => by
    have h1 := f_st_le (tx := tx) (c := f_ch (zBy sb i)) hl h
    unfold f_foF
    by_cases q : (f_st tx ln (f_ch (zBy sb i)) s).1 = 0
    · rw [if_pos q]; exact h1
    · rw [if_neg q]; exact f_foF_le hl k (i + 1) _ h1
theorem f_fo_le {tx : Nat → Int32} {ln sn x : Nat} {sb : Nat → Int8} {nu : Nat → Int32} (hl : ln ≤ 60) (h : x ≤ ln) : (f_fo tx ln sn sb x nu).2.1 ≤ ln ∧ (f_fo tx ln sn sb x nu).2.2.1 ≤ 3 := f_foF_le hl sn 0 _ ⟨h, Nat.zero_le 3⟩
theorem f_cmF_le {tx : Nat → Int32} {ln x : Nat} (hl : ln ≤ 60) (hx : x ≤ ln) : ∀ (k i en : Nat) (s : zR3), en ≤ ln → s.2.1 ≤ 3 → (f_cmF tx ln x k i en s).2.1 ≤ ln ∧ (f_cmF tx ln x k i en s).2.2.2.1 ≤ 3
  | 0, _, en, s, h, h3 => ⟨h, h3⟩
  | k + 1, i, en, s, h, h3 => by
    have h1 := f_fo_le (tx := tx) (sn := f_fl i) (sb := f_fb i) (nu := s.2.2) hl hx
    unfold f_cmF
    by_cases q : (f_fo tx ln (f_fl i) (f_fb i) x s.2.2).1 = 0
    · rw [if_pos q]
      exact f_cmF_le hl hx k (i + 1) _ _ (Nat.max_le.mpr ⟨h, h1.1⟩) h1.2
    · rw [if_neg q]
      exact ⟨Nat.max_le.mpr ⟨h, h1.1⟩, h1.2⟩
def f_cm (tx : Nat → Int32) (ln x : Nat) (s : zR3) : zC5 := f_cmF tx ln x 8 0 x s
