/-! AN OBJECT AS THE LAW MAKES IT -/
def zMd (m : Nat) (b : Int) (L : zL) : Prop := (lMc L = m ∧ m ≤ 8) ∧ (zAp (lAm L) ∧ ∀ x, x < 8 → zDn (lAm L) x 8 ≤ 99) ∧ (∀ x, x < m → lLi L x = 99 ∧ lCo L x = 30) ∧ (∀ x, x < 8 → 0 ≤ (lLi L x).toInt ∧ (lLi L x).toInt ≤ 500) ∧ (∀ x, x < 8 → 0 ≤ (lCa L x).toInt ∧ (lCa L x).toInt ≤ b) ∧ (∀ x, x < 8 → lBo L x = false) ∧ 0 ≤ (lHc L).toInt
theorem zMd_iv {m : Nat} {b : Int} {L : zL} (h : zMd m b L) (hb : b ≤ 99) (h3 : 3 ≤ m) : zIv L := ⟨⟨by rw [h.1.1]; exact h3, by rw [h.1.1]; exact h.1.2⟩, h.2.1.1, h.2.2.2.1, fun x hx => ⟨(h.2.2.2.2.1 x hx).1, Int.le_trans (h.2.2.2.2.1 x hx).2 hb⟩, h.2.2.2.2.2.2⟩
theorem zAp_0 : zAp (fun _ => 0) := ⟨fun _ _ => Int.le_of_eq Int32.toInt_zero.symm, fun x _ => by
  have : ∀ n, zDn (fun _ => 0) x n = 0 := fun n => by
    induction n with
    | zero => rfl
    | succ n ih => show zDn (fun _ => 0) x n + (0 : Int32).toInt = 0; rw [ih, Int32.toInt_zero]; rfl
  rw [this 8]; decide⟩
theorem zMd_0 : zMd 0 0 zL0 := ⟨⟨rfl, by decide⟩, ⟨zAp_0, fun x _ => by
  have : ∀ n, zDn (fun _ => 0) x n = 0 := fun n => by
    induction n with
    | zero => rfl
    | succ n ih => show zDn (fun _ => 0) x n + (0 : Int32).toInt = 0; rw [ih, Int32.toInt_zero]; rfl
  show zDn (fun _ => 0) x 8 ≤ 99
  rw [this 8]; decide⟩, fun x h => absurd h (Nat.not_lt_zero x), fun _ _ => (by decide : 0 ≤ (0 : Int32).toInt ∧ (0 : Int32).toInt ≤ 500), fun _ _ => (by decide : 0 ≤ (0 : Int32).toInt ∧ (0 : Int32).toInt ≤ 0), fun _ _ => rfl, (by decide : 0 ≤ (20 : Int32).toInt)⟩
theorem zMd_join {m : Nat} {b : Int} {L : zL} (h : zMd m b L) (hm : m < 8) : f_onJoin (lMc L) = 0 ∧ zMd (m + 1) b (lJoin L) := by
  have e := h.1.1
  refine ⟨?_, ⟨by show lMc L + 1 = m + 1; rw [e], hm⟩, h.2.1, fun x hx => ?_, z_upT (by decide) h.2.2.2.1, h.2.2.2.2⟩
  · unfold f_onJoin
    rw [e]
    exact if_neg (nI_ge hm (by decide))
  · show upd (lLi L) (lMc L) 99 x = 99 ∧ upd (lCo L) (lMc L) 30 x = 30
    rw [e]
    by_cases q : x = m
    · rw [q, pk_us, pk_us]; exact ⟨rfl, rfl⟩
    · rw [pk_un q, pk_un q]; exact h.2.2.1 x (by omega)
theorem zMd_hrc {m : Nat} {b : Int} {L : zL} {u : Int32} (h : zMd m b L) (hu : 0 ≤ u.toInt) : zMd m b (lHrc L u) := ⟨h.1, h.2.1, h.2.2.1, h.2.2.2.1, h.2.2.2.2.1, h.2.2.2.2.2.1, hu⟩
theorem z_pairE {mc x y : Nat} (hm : mc ≤ 8) (hx : x < mc) (hy : y < mc) : f_onPair mc (nI x) (nI y) = if x = y then 2 else 0 := by
  unfold f_onPair
  rw [z_hasN hx hm, z_hasN hy hm, if_neg (by decide), if_neg (by decide)]
  by_cases q : x = y
  · rw [if_pos (by rw [q]), if_pos q]
  · rw [if_neg (fun z => q ((nI_eq (by omega) (by omega)).mp z)), if_neg q]
theorem z_isAmE {u : Nat} (h1 : 1 ≤ u) (h2 : u ≤ 99) : f_isAm (nI u) = 1 := by
  unfold f_isAm
  rw [if_neg (fun q => by
    have := (nI_ltI (b := 1) (by omega) (by decide)).mp q
    omega), if_neg (fun q => by
    have := (nI_ltI (a := 99) (by decide) (by omega)).mp q
    omega)]
theorem z_mkD {m x y u : Nat} {b : Int} {L : zL} (h : zMd m b L) (hx : x < m) (hy : y < m) (h1 : 1 ≤ u) (h2 : u ≤ 99) : (x = y → f_onDebt (lMc L) (lAm L) (lLi L) (zBo (lBo L)) (nI x) (nI y) (nI u) = 2) ∧ (¬ x = y → f_onDebt (lMc L) (lAm L) (lLi L) (zBo (lBo L)) (nI x) (nI y) (nI u) = 0 ∨ f_onDebt (lMc L) (lAm L) (lLi L) (zBo (lBo L)) (nI x) (nI y) (nI u) = 4) := by
  have e := h.1.1
  have hm := h.1.2
  have hp := z_pairE (mc := m) hm hx hy
  have ha := z_isAmE h1 h2
  have hb : zBo (lBo L) (z_n (nI x)) = 0 := by
    rw [z_nn (by omega)]
    unfold zBo
    rw [h.2.2.2.2.2.1 x (by omega)]
    rfl
  have hPA : f_onPA m (nI x) (nI y) (nI u) = if x = y then 2 else 0 := by
    unfold f_onPA
    rw [hp, ha]
    by_cases q : x = y
    · rw [if_pos q]; rfl
    · rw [if_neg q]; rfl
  constructor
  · intro q
    unfold f_onDebt
    rw [e, hPA, if_pos q]
    exact if_neg (by decide)
  · intro q
    unfold f_onDebt
    rw [e, hPA, if_neg q, if_pos rfl, if_pos hb]
    by_cases z : f_debit (lAm L) (z_n (nI x)) + nI u ≤ lLi L (z_n (nI x))
    · rw [if_pos z]; exact Or.inl rfl
    · rw [if_neg z]; exact Or.inr rfl
theorem zMd_debt {m : Nat} {b : Int} {L : zL} {v w u : Int32} (h : zMd m b L) (hf : f_onDebt (lMc L) (lAm L) (lLi L) (zBo (lBo L)) v w u = 0) : zMd m b (lDebt L v w u) ∧ 1 ≤ (lAm L (8 * z_n v + z_n w) + u).toInt := by
  have hm8 : lMc L ≤ 8 := by rw [h.1.1]; exact h.1.2
  obtain ⟨x, y, hx, hy, hxy, rfl, rfl, ham⟩ := z_onPA (z_onDebt hf) hm8
  have hx8 : x < 8 := by omega
  have hy8 : y < 8 := by omega
  have hu := z_isAm ham
  have h2 : f_debit (lAm L) x + u ≤ lLi L x := by
    unfold f_onDebt at hf
    rw [if_pos (z_onDebt hf), z_nn hx8] at hf
    split at hf
    · split at hf
      · assumption
      · exact absurd hf (by decide)
    · exact absurd hf (by decide)
  have h3 := z_debitT h.2.1.1 hx8
  have h4 := h.2.1.2 x hx8
  have h5 := zDn_nn h.2.1.1 hx8 8 (Nat.le_refl 8)
  have h6 : lLi L x = 99 := (h.2.2.1 x (by rw [← h.1.1]; exact hx)).1
  have h7 := zAp_am h.2.1.1 (p := 8 * x + y) (by omega)
  have h8 : zDn (lAm L) x 8 + u.toInt ≤ 99 := by
    have := z_leT.mp h2
    rw [z_addI (by omega) (by omega), h3, h6] at this
    have e9 : (99 : Int32).toInt = 99 := rfl
    omega
  obtain ⟨g1, g2, g3, g4⟩ := z_chA h.2.1.1 (v := u) hx8 hy8 (by omega) (by omega)
  rw [z_nn hx8, z_nn hy8]
  refine ⟨⟨h.1, ?_, h.2.2⟩, by rw [g2]; omega⟩
  show zAp (f_chA (lAm L) (z_n (nI x)) (z_n (nI y)) u) ∧ ∀ k, k < 8 → zDn (f_chA (lAm L) (z_n (nI x)) (z_n (nI y)) u) k 8 ≤ 99
  rw [z_nn hx8, z_nn hy8]
  refine ⟨g1, fun k hk => ?_⟩
  by_cases q : k = x
  · rw [q, g3]; exact h8
  · rw [g4 k q]; exact h.2.1.2 k hk
theorem zMd_plg {m x u : Nat} {L : zL} (h : zMd m 0 L) (hx : x < m) (h1 : 1 ≤ u) (h2 : u ≤ 99) : f_onPl (lMc L) (lCa L) (nI x) (nI u) = 0 ∧ zMd m 99 (lPlg L (nI x) (nI u)) ∧ 0 < lCa L (z_n (nI x)) + nI u := by
  have hm := h.1.2
  have hc := h.2.2.2.2.1 x (by omega)
  have hu : (nI u).toInt = u := nI_toInt (by omega)
  have e : (lCa L x + nI u).toInt = (lCa L x).toInt + (nI u).toInt := z_addI (by omega) (by omega)
  have e9 : (99 : Int32).toInt = 99 := rfl
  have hn : z_n (nI x) = x := z_nn (by omega)
  refine ⟨?_, ⟨h.1, h.2.1, h.2.2.1, h.2.2.2.1, ?_, h.2.2.2.2.2⟩, ?_⟩
  · unfold f_onPl
    rw [h.1.1, z_hasN hx hm, if_neg (by decide), z_isAmE h1 h2, if_neg (by decide), hn]
    exact if_pos (z_leT.mpr (by omega))
  · show ∀ k, k < 8 → 0 ≤ (upd (lCa L) (z_n (nI x)) (lCa L (z_n (nI x)) + nI u) k).toInt ∧ (upd (lCa L) (z_n (nI x)) (lCa L (z_n (nI x)) + nI u) k).toInt ≤ 99
    rw [hn]
    exact z_upT (by omega) (fun k hk => ⟨(h.2.2.2.2.1 k hk).1, by have := (h.2.2.2.2.1 k hk).2; omega⟩)
  · rw [hn]
    exact z_ltT.mpr (by rw [Int32.toInt_zero]; omega)
theorem z_onHcE {u : Nat} (h : u ≤ 90) : f_onHc (nI u) = 0 := by
  unfold f_onHc
  rw [if_neg (nI_pos (by omega))]
  exact if_pos (show nI u ≤ nI 90 from (nI_leI (by omega) (by decide)).mpr h)
set_option maxHeartbeats 4000000 in
set_option maxRecDepth 100000 in
theorem c_L_makes (l : Launch) (hl9 : l.stackTraces = false) (D : va_G) (g : Nat → ClassId) (er : Nat → Nat) (dg : Nat → Nat) (ec : Nat → Nat) (fs : Nat → Nat) (fv : Nat → Nat) (qa : Nat) (sw : Nat) (sb : Nat) (sn : Nat) (xs : Nat → Int32) (a : Nat → Nat) (k : zKK) (x : Nat → Int32) (o : zOO) (j : zGG) (hM0 : zMd 0 0 (kL k)) (hH0 : lHc (kL k) = 20) (hn : kN k < 8) (hc9 : kC k < 9) (hi0 : kI k = 0) (hnc : jnc j ≤ 3) (sz : Nat) : Met l yL_makes wsL_makes { frames := 9, cells := 30, slots := 180, locals := 149 } (zPc D (gT g) (zEnvL er D g dg ec fs fv qa sw sb sn xs) [.ref (a 0), .ref sb] (sysD g a k x o j) [] sz) (zQi D (sysD g a k x o j) (fun (r : Int32) (k9 : zKK) => r = 1 ∧ (∃ n, 3 ≤ n ∧ zMd n 99 (kL k9)) ∧ kN k9 < 8 ∧ kC k9 < 9 ∧ kI k9 = 0 ∧ kS k9 = kS k ∧ kV k9 = kV k) (fun (u9 : zKK) => (sysD g a u9 x o j)) sz) 30 180 (va_A (sysD g a k x o j) sz) := by
  refine z_met (y := yL_makes) (cc := cL_makes) (nL := 8) (rm := { frames := 9, cells := 30, slots := 180, locals := 149 }) (D := D) (tys := gT g) (wr := []) (P0 := zEnvL er D g dg ec fs fv qa sw sb sn xs) (As := [.ref (a 0), .ref sb]) (ww := (sysD g a k x o j)) (Qc := zQi D (sysD g a k x o j) (fun (r : Int32) (k9 : zKK) => r = 1 ∧ (∃ n, 3 ≤ n ∧ zMd n 99 (kL k9)) ∧ kN k9 < 8 ∧ kC k9 < 9 ∧ kI k9 = 0 ∧ kS k9 = kS k ∧ kV k9 = kV k) (fun (u9 : zKK) => (sysD g a u9 x o j))) (ret := (some .boolean)) (by decide) rfl (Nat.le_of_ble_eq_true rfl) ?_ sz
  intro p e s m args below meth c A Q hA hQ F E hr hlk hin
  show zW p l e { frames := 9, cells := 30, slots := 180, locals := 149 } s m args below meth c 8 D A Q 0 0 (sysD g a k x o j) [(0, .ref (a 0)), (1, .ref sb)] [] 0
  refine z_iconst (v := 3) F dL_makes_0 (by decide) ?_
  refine z_aload_n F 1 dL_makes_1 rfl rfl ?_
  refine z_iconst (v := 0) F dL_makes_2 (by decide) ?_
  refine z_calli0 F (z_runS (st := [.int 3]) F ((zEnvL_ok er D g dg ec fs fv qa sw sb sn xs)) E (fun sz => c_L_at l D g er dg ec fs fv qa sw sb sn xs 0 ((by decide)) sz) (va_cwS 2 F.1.2.2.2.2 gL_makes_L_at rfl rfl rfl (by decide +kernel) ⟨Nat.le_of_ble_eq_true rfl, Nat.le_of_ble_eq_true rfl⟩) [] [] rfl rfl (by decide) rfl rfl (Nat.le_of_ble_eq_true rfl) dL_makes_3 ⟨Nat.le_of_ble_eq_true rfl, Nat.le_of_ble_eq_true rfl⟩) (fun r2 _ hw1 => ?_)
  subst hw1
  refine z_bipush (v := 6) F dL_makes_6 (by decide) ?_
  refine z_calli0 F (z_runS (st := [.int 3]) F zNo_ok trivial (fun sz => c_L_some l D g (f_at sn xs 0) 6 ((by decide)) sz) (va_cwS 2 F.1.2.2.2.2 gL_makes_L_some rfl rfl rfl (by decide +kernel) ⟨Nat.le_of_ble_eq_true rfl, Nat.le_of_ble_eq_true rfl⟩) [] [] rfl rfl (by decide) rfl rfl (Nat.le_of_ble_eq_true rfl) dL_makes_8 ⟨Nat.le_of_ble_eq_true rfl, Nat.le_of_ble_eq_true rfl⟩) (fun r4 _ hw3 => ?_)
  subst hw3
  obtain ⟨g1, hg1, eg1⟩ := f_some_lt (f_at sn xs 0) (n := 6) (by omega) (by omega)
  refine z_top (y := nI g1) (eg1) ?_
  refine z_iadd F dL_makes_11 ?_
  refine z_top (y := nI (3 + g1)) (nI_add 3 g1) ?_
  obtain ⟨n1, hn1⟩ : ∃ n1, n1 = 3 + g1 := ⟨_, rfl⟩
  refine z_top (y := nI n1) (by rw [hn1]) ?_
  refine z_istore_n (lv' := [(2, .int (nI n1)), (0, .ref (a 0)), (1, .ref sb)]) F dL_makes_12 rfl (by decide) rfl ?_
  refine z_iconst (v := 0) F dL_makes_13 (by decide) ?_
  refine z_istore_n (lv' := [(3, .int 0), (2, .int (nI n1)), (0, .ref (a 0)), (1, .ref sb)]) F dL_makes_14 rfl (by decide) rfl ?_
  have L15 : ∀ (N15_ : Nat) (m1 : Nat) (k1 : zKK) (hN15_ : n1 - m1 < N15_) (hm1 : m1 ≤ n1) (hM : zMd m1 0 (kL k1)) (hH : lHc (kL k1) = 20) (hn31 : 3 ≤ n1) (hn81 : n1 ≤ 8) (hN : kN k1 < 8) (hC : kC k1 < 9) (hI0 : kI k1 = 0) (hS0 : kS k1 = kS k) (hV0 : kV k1 = kV k), zW p l e { frames := 9, cells := 30, slots := 180, locals := 149 } s m args below meth c 8 D A Q m1 (6 * m1) (sysD g a k1 x o j) [(0, .ref (a 0)), (1, .ref sb), (2, .int (nI n1)), (3, .int (nI m1))] [] 15 := by
    intro N15_
    induction N15_ with
    | zero =>
      intro m1 k1 hN15_
      exact absurd hN15_ (Nat.not_lt_zero _)
    | succ N15_ ih15 =>
      intro m1 k1 hN15_ hm1 hM hH hn31 hn81 hN hC hI0 hS0 hV0
      refine z_iload_n F 3 dL_makes_15 rfl rfl ?_
      refine z_iload_n F 2 dL_makes_16 rfl rfl ?_
      refine z_icmp_ge (tgt := 36) F dL_makes_17 (by decide) (fun c5 => ?_) (fun c5 => ?_)
      · have hmm : m1 = n1 := by have := z_ge (by omega) (by omega) c5; omega
        rw [hmm] at hM
        refine z_aload_n F 0 dL_makes_36 rfl rfl ?_
        refine z_aload_n F 1 dL_makes_37 rfl rfl ?_
        refine z_iconst (v := 1) F dL_makes_38 (by decide) ?_
        refine z_calli0 F (z_runS (st := [.ref (a 0)]) F ((zEnvL_ok er D g dg ec fs fv qa sw sb sn xs)) E (fun sz => c_L_at l D g er dg ec fs fv qa sw sb sn xs 1 ((by decide)) sz) (va_cwS 2 F.1.2.2.2.2 gL_makes_L_at rfl rfl rfl (by decide +kernel) ⟨Nat.le_of_ble_eq_true rfl, Nat.le_of_ble_eq_true rfl⟩) [] [] rfl rfl (by decide) rfl rfl (Nat.le_of_ble_eq_true rfl) dL_makes_39 ⟨by dsimp only; omega, by dsimp only; omega⟩) (fun r7 _ hw6 => ?_)
        subst hw6
        refine z_bipush (v := 91) F dL_makes_42 (by decide) ?_
        refine z_calli0 F (z_runS (st := [.ref (a 0)]) F zNo_ok trivial (fun sz => c_L_some l D g (f_at sn xs 1) 91 ((by decide)) sz) (va_cwS 2 F.1.2.2.2.2 gL_makes_L_some rfl rfl rfl (by decide +kernel) ⟨Nat.le_of_ble_eq_true rfl, Nat.le_of_ble_eq_true rfl⟩) [] [] rfl rfl (by decide) rfl rfl (Nat.le_of_ble_eq_true rfl) dL_makes_44 ⟨by dsimp only; omega, by dsimp only; omega⟩) (fun r9 _ hw8 => ?_)
        subst hw8
        obtain ⟨h1, hh1, eh1⟩ := f_some_lt (f_at sn xs 1) (n := 91) (by omega) (by omega)
        refine z_top (y := nI h1) (eh1) ?_
        refine z_sysi (wf := fun k47 => (sysD g a k47 x o j)) F (z_sysW (X := sysD g a k1 x o j) (Y := []) (st := []) F ((zEnvL_ok er D g dg ec fs fv qa sw sb sn xs)) E (fun sz => c_L_setHaircut l hl9 D g er dg ec fs fv qa sw sb sn xs a k1 x o j (nI h1) ((by rw [hM.1.1]; exact hM.1.2)) (hN) (hC) sz) (vx_cwSW 2 F.1.2.2.2.2 gL_makes_L_setHaircut rfl rfl rfl (by decide +kernel) ⟨Nat.le_of_ble_eq_true rfl, Nat.le_of_ble_eq_true rfl⟩) (List.append_nil _).symm [] rfl rfl (by decide) rfl rfl (Nat.le_of_ble_eq_true rfl) dL_makes_47 ⟨by dsimp only; omega, by dsimp only; omega⟩) (List.append_nil _).symm (fun _ => rfl) (fun _ => List.append_nil _) (fun r47 k47 hw47 => ?_)
        have hf47 := z_onHcE (show h1 ≤ 90 by omega)
        obtain ⟨e1, e2⟩ := hw47.1 hf47
        subst e2
        refine z_ws (ws' := (sysD g a ((pushK k1 (lHrc (kL k1) (nI h1)))) x o j)) rfl ?_
        have e3 : r47 = 20 := by rw [e1, hH]
        refine z_bipush (v := 20) F dL_makes_50 (by decide) ?_
        refine z_icmp_eq (tgt := 57) F dL_makes_52 (by decide) (fun c10 => ?_) (fun c10 => ?_)
        · refine z_iconst (v := 0) F dL_makes_57 (by decide) ?_
          refine z_istore_n (lv' := [(3, .int 0), (0, .ref (a 0)), (1, .ref sb), (2, .int (nI n1))]) F dL_makes_58 rfl (by decide) rfl ?_
          have L59 : ∀ (N59_ : Nat) (m1 : Nat) (k1 : zKK) (hN59_ : 16 - m1 < N59_) (hm1 : m1 ≤ 16) (hM : zMd n1 0 (kL k1)) (hn31 : 3 ≤ n1) (hn81 : n1 ≤ 8) (hN : kN k1 < 8) (hC : kC k1 < 9) (hI0 : kI k1 = 0) (hS0 : kS k1 = kS k) (hV0 : kV k1 = kV k), zW p l e { frames := 9, cells := 30, slots := 180, locals := 149 } s m args below meth c 8 D A Q (9 + m1) (54 + 6 * m1) (sysD g a k1 x o j) [(0, .ref (a 0)), (1, .ref sb), (2, .int (nI n1)), (3, .int (nI m1))] [] 59 := by
            intro N59_
            induction N59_ with
            | zero =>
              intro m1 k1 hN59_
              exact absurd hN59_ (Nat.not_lt_zero _)
            | succ N59_ ih59 =>
              intro m1 k1 hN59_ hm1 hM hn31 hn81 hN hC hI0 hS0 hV0
              refine z_iload_n F 3 dL_makes_59 rfl rfl ?_
              refine z_bipush (v := 16) F dL_makes_60 (by decide) ?_
              refine z_icmp_ge (tgt := 154) F dL_makes_62 (by decide) (fun c11 => ?_) (fun c11 => ?_)
              · refine z_aload_n F 0 dL_makes_154 rfl rfl ?_
                refine z_aload_n F 1 dL_makes_155 rfl rfl ?_
                refine z_bipush (v := 20) F dL_makes_156 (by decide) ?_
                refine z_calli0 F (z_runS (st := [.ref (a 0)]) F ((zEnvL_ok er D g dg ec fs fv qa sw sb sn xs)) E (fun sz => c_L_at l D g er dg ec fs fv qa sw sb sn xs 20 ((by decide)) sz) (va_cwS 2 F.1.2.2.2.2 gL_makes_L_at rfl rfl rfl (by decide +kernel) ⟨Nat.le_of_ble_eq_true rfl, Nat.le_of_ble_eq_true rfl⟩) [] [] rfl rfl (by decide) rfl rfl (Nat.le_of_ble_eq_true rfl) dL_makes_158 ⟨by dsimp only; omega, by dsimp only; omega⟩) (fun r13 _ hw12 => ?_)
                subst hw12
                refine z_iload_n F 2 dL_makes_161 rfl rfl ?_
                refine z_calli0 F (z_runS (st := [.ref (a 0)]) F zNo_ok trivial (fun sz => c_L_some l D g (f_at sn xs 20) (nI n1) (fun q => absurd ((nI_eq (b := 0) (by omega) (by decide)).mp q) (by omega)) sz) (va_cwS 2 F.1.2.2.2.2 gL_makes_L_some rfl rfl rfl (by decide +kernel) ⟨Nat.le_of_ble_eq_true rfl, Nat.le_of_ble_eq_true rfl⟩) [] [] rfl rfl (by decide) rfl rfl (Nat.le_of_ble_eq_true rfl) dL_makes_162 ⟨by dsimp only; omega, by dsimp only; omega⟩) (fun r15 _ hw14 => ?_)
                subst hw14
                obtain ⟨p1, hp1, ep1⟩ := f_some_lt (f_at sn xs 20) (n := n1) (by omega) (by omega)
                refine z_top (y := nI p1) (ep1) ?_
                refine z_iconst (v := 1) F dL_makes_165 (by decide) ?_
                refine z_aload_n F 1 dL_makes_166 rfl rfl ?_
                refine z_bipush (v := 21) F dL_makes_167 (by decide) ?_
                refine z_calli0 F (z_runS (st := [.int 1, .int (nI p1), .ref (a 0)]) F ((zEnvL_ok er D g dg ec fs fv qa sw sb sn xs)) E (fun sz => c_L_at l D g er dg ec fs fv qa sw sb sn xs 21 ((by decide)) sz) (va_cwS 2 F.1.2.2.2.2 gL_makes_L_at rfl rfl rfl (by decide +kernel) ⟨Nat.le_of_ble_eq_true rfl, Nat.le_of_ble_eq_true rfl⟩) [] [] rfl rfl (by decide) rfl rfl (Nat.le_of_ble_eq_true rfl) dL_makes_169 ⟨by dsimp only; omega, by dsimp only; omega⟩) (fun r17 _ hw16 => ?_)
                subst hw16
                refine z_bipush (v := 60) F dL_makes_172 (by decide) ?_
                refine z_calli0 F (z_runS (st := [.int 1, .int (nI p1), .ref (a 0)]) F zNo_ok trivial (fun sz => c_L_some l D g (f_at sn xs 21) 60 ((by decide)) sz) (va_cwS 2 F.1.2.2.2.2 gL_makes_L_some rfl rfl rfl (by decide +kernel) ⟨Nat.le_of_ble_eq_true rfl, Nat.le_of_ble_eq_true rfl⟩) [] [] rfl rfl (by decide) rfl rfl (Nat.le_of_ble_eq_true rfl) dL_makes_174 ⟨by dsimp only; omega, by dsimp only; omega⟩) (fun r19 _ hw18 => ?_)
                subst hw18
                obtain ⟨q1, hq1, eq1⟩ := f_some_lt (f_at sn xs 21) (n := 60) (by omega) (by omega)
                refine z_top (y := nI q1) (eq1) ?_
                refine z_iadd F dL_makes_177 ?_
                refine z_top (y := nI (1 + q1)) (nI_add 1 q1) ?_
                refine z_sysi (wf := fun k178 => (sysD g a k178 x o j)) F (z_sysW (X := sysD g a k1 x o j) (Y := []) (st := []) F ((zEnvL_ok er D g dg ec fs fv qa sw sb sn xs)) E (fun sz => c_L_pledge l hl9 D g er dg ec fs fv qa sw sb sn xs a k1 x o j (nI p1) (nI (1 + q1)) ((by rw [hM.1.1]; exact hM.1.2)) (hN) (hC) sz) (vx_cwSW 3 F.1.2.2.2.2 gL_makes_L_pledge rfl rfl rfl (by decide +kernel) ⟨Nat.le_of_ble_eq_true rfl, Nat.le_of_ble_eq_true rfl⟩) (List.append_nil _).symm [] rfl rfl (by decide) rfl rfl (Nat.le_of_ble_eq_true rfl) dL_makes_178 ⟨by dsimp only; omega, by dsimp only; omega⟩) (List.append_nil _).symm (fun _ => rfl) (fun _ => List.append_nil _) (fun r178 k178 hw178 => ?_)
                obtain ⟨hf178, hM178, h178⟩ := zMd_plg hM (show p1 < n1 by assumption) (show 1 ≤ 1 + q1 by omega) (show 1 + q1 ≤ 99 by omega)
                obtain ⟨e1, e2⟩ := hw178.1 hf178
                subst e2
                refine z_ws (ws' := (sysD g a ((pushK k1 (lPlg (kL k1) (nI p1) (nI (1 + q1))))) x o j)) rfl ?_
                have e3 : 0 < r178 := by rw [e1]; exact h178
                refine z_if_le (tgt := 188) F dL_makes_181 (by decide) (fun c20 => ?_) (fun c20 => ?_)
                · exact absurd e3 (Int32.not_lt.mpr c20)
                · refine z_iconst (v := 1) F dL_makes_184 (by decide) ?_
                  refine z_goto (tgt := 189) F dL_makes_185 (by decide) ?_
                  refine z_wide (k := 30) (n := 180) (by first | exact Nat.le_of_ble_eq_true rfl | omega) (by first | exact Nat.le_of_ble_eq_true rfl | omega) ?_
                  exact z_zret F hA hQ hlk hr (rfl) (pushK k1 (lPlg (kL k1) (nI p1) (nI (1 + q1)))) (⟨rfl, ⟨n1, hn31, hM178⟩, Nat.mod_lt _ (by decide), (show min (kC k1 + 1) 8 < 9 by omega), hI0, hS0, hV0⟩) (rfl) dL_makes_189
              · have hmm : m1 < 16 := z_lt (by omega) (by decide) c11
                refine z_aload_n F 1 dL_makes_65 rfl rfl ?_
                refine z_iconst (v := 2) F dL_makes_66 (by decide) ?_
                refine z_iload_n F 3 dL_makes_67 rfl rfl ?_
                refine z_iadd F dL_makes_68 ?_
                refine z_top (y := nI (2 + m1)) (nI_add 2 m1) ?_
                refine z_calli0 F (z_runS (st := []) F ((zEnvL_ok er D g dg ec fs fv qa sw sb sn xs)) E (fun sz => c_L_at l D g er dg ec fs fv qa sw sb sn xs (nI (2 + m1)) (nI_pos (by omega)) sz) (va_cwS 2 F.1.2.2.2.2 gL_makes_L_at rfl rfl rfl (by decide +kernel) ⟨Nat.le_of_ble_eq_true rfl, Nat.le_of_ble_eq_true rfl⟩) [] [] rfl rfl (by decide) rfl rfl (Nat.le_of_ble_eq_true rfl) dL_makes_69 ⟨by dsimp only; omega, by dsimp only; omega⟩) (fun r22 _ hw21 => ?_)
                subst hw21
                refine z_istore (lv' := [(4, .int (f_at sn xs (nI (2 + m1)))), (0, .ref (a 0)), (1, .ref sb), (2, .int (nI n1)), (3, .int (nI m1))]) F dL_makes_72 (by decide) rfl ?_
                refine z_iload F 0 dL_makes_74 rfl ?_
                refine z_iload_n F 3 dL_makes_76 rfl rfl ?_
                refine z_calli0 F (z_runS (st := []) F zNo_ok trivial (fun sz => c_L_some l D g (f_at sn xs (nI (2 + m1))) (nI n1) (fun q => absurd ((nI_eq (b := 0) (by omega) (by decide)).mp q) (by omega)) sz) (va_cwS 2 F.1.2.2.2.2 gL_makes_L_some rfl rfl rfl (by decide +kernel) ⟨Nat.le_of_ble_eq_true rfl, Nat.le_of_ble_eq_true rfl⟩) [] [] rfl rfl (by decide) rfl rfl (Nat.le_of_ble_eq_true rfl) dL_makes_77 ⟨by dsimp only; omega, by dsimp only; omega⟩) (fun r24 _ hw23 => ?_)
                subst hw23
                obtain ⟨fr1, hfr, efr1⟩ := f_some_lt (f_at sn xs (nI (2 + m1))) (n := n1) (by omega) (by omega)
                refine z_top (y := nI fr1) (efr1) ?_
                refine z_istore (lv' := [(5, .int (nI fr1)), (4, .int (f_at sn xs (nI (2 + m1)))), (0, .ref (a 0)), (1, .ref sb), (2, .int (nI n1)), (3, .int (nI m1))]) F dL_makes_80 (by decide) rfl ?_
                refine z_iload F 1 dL_makes_82 rfl ?_
                refine z_iconst (v := 4) F dL_makes_84 (by decide) ?_
                refine z_ishr F dL_makes_85 ?_
                refine z_iload_n F 4 dL_makes_86 rfl rfl ?_
                refine z_calli0 F (z_runS (st := []) F zNo_ok trivial (fun sz => c_L_some l D g ((f_at sn xs (nI (2 + m1))) >>> (4 &&& 31)) (nI n1) (fun q => absurd ((nI_eq (b := 0) (by omega) (by decide)).mp q) (by omega)) sz) (va_cwS 2 F.1.2.2.2.2 gL_makes_L_some rfl rfl rfl (by decide +kernel) ⟨Nat.le_of_ble_eq_true rfl, Nat.le_of_ble_eq_true rfl⟩) [] [] rfl rfl (by decide) rfl rfl (Nat.le_of_ble_eq_true rfl) dL_makes_87 ⟨by dsimp only; omega, by dsimp only; omega⟩) (fun r26 _ hw25 => ?_)
                subst hw25
                obtain ⟨to1, hto, eto1⟩ := f_some_lt ((f_at sn xs (nI (2 + m1))) >>> (4 &&& 31)) (n := n1) (by omega) (by omega)
                refine z_top (y := nI to1) (eto1) ?_
                refine z_istore (lv' := [(6, .int (nI to1)), (5, .int (nI fr1)), (4, .int (f_at sn xs (nI (2 + m1)))), (0, .ref (a 0)), (1, .ref sb), (2, .int (nI n1)), (3, .int (nI m1))]) F dL_makes_90 (by decide) rfl ?_
                refine z_aload_n F 3 dL_makes_92 rfl rfl ?_
                refine z_iload F 1 dL_makes_93 rfl ?_
                refine z_iload F 0 dL_makes_95 rfl ?_
                refine z_iconst (v := 1) F dL_makes_97 (by decide) ?_
                refine z_iload F 2 dL_makes_98 rfl ?_
                refine z_bipush (v := 8) F dL_makes_100 (by decide) ?_
                refine z_ishr F dL_makes_102 ?_
                refine z_bipush (v := 40) F dL_makes_103 (by decide) ?_
                refine z_calli0 F (z_runS (st := [.int 1, .int (nI to1), .int (nI fr1), .ref (a 0)]) F zNo_ok trivial (fun sz => c_L_some l D g ((f_at sn xs (nI (2 + m1))) >>> (8 &&& 31)) 40 ((by decide)) sz) (va_cwS 2 F.1.2.2.2.2 gL_makes_L_some rfl rfl rfl (by decide +kernel) ⟨Nat.le_of_ble_eq_true rfl, Nat.le_of_ble_eq_true rfl⟩) [] [] rfl rfl (by decide) rfl rfl (Nat.le_of_ble_eq_true rfl) dL_makes_105 ⟨by dsimp only; omega, by dsimp only; omega⟩) (fun r28 _ hw27 => ?_)
                subst hw27
                obtain ⟨t1, ht1, et1⟩ := f_some_lt ((f_at sn xs (nI (2 + m1))) >>> (8 &&& 31)) (n := 40) (by omega) (by omega)
                refine z_top (y := nI t1) (et1) ?_
                refine z_iadd F dL_makes_108 ?_
                refine z_top (y := nI (1 + t1)) (nI_add 1 t1) ?_
                refine z_sysi (wf := fun k109 => (sysD g a k109 x o j)) F (z_sysW (X := sysD g a k1 x o j) (Y := []) (st := []) F ((zEnvL_ok er D g dg ec fs fv qa sw sb sn xs)) E (fun sz => c_L_addDebt l hl9 D g er dg ec fs fv qa sw sb sn xs a k1 x o j (nI fr1) (nI to1) (nI (1 + t1)) ((by rw [hM.1.1]; exact hM.1.2)) (hN) (hC) sz) (vx_cwSW 4 F.1.2.2.2.2 gL_makes_L_addDebt rfl rfl rfl (by decide +kernel) ⟨Nat.le_of_ble_eq_true rfl, Nat.le_of_ble_eq_true rfl⟩) (List.append_nil _).symm [] rfl rfl (by decide) rfl rfl (Nat.le_of_ble_eq_true rfl) dL_makes_109 ⟨by dsimp only; omega, by dsimp only; omega⟩) (List.append_nil _).symm (fun _ => rfl) (fun _ => List.append_nil _) (fun r109 k109 hw109 => ?_)
                have hD := z_mkD hM hfr hto (show 1 ≤ 1 + t1 by omega) (show 1 + t1 ≤ 99 by omega)
                by_cases hft : fr1 = to1
                · have hf109 := hD.1 hft
                  obtain ⟨e1, e2⟩ := hw109.2 (by rw [hf109]; decide)
                  have e2 := e2.symm
                  subst e2
                  rw [hf109] at e1
                  refine z_top (y := -1002) e1 ?_
                  refine z_istore (lv' := [(7, .int (-1002)), (6, .int (nI to1)), (5, .int (nI fr1)), (4, .int (f_at sn xs (nI (2 + m1)))), (0, .ref (a 0)), (1, .ref sb), (2, .int (nI n1)), (3, .int (nI m1))]) F dL_makes_112 (by decide) rfl ?_
                  refine z_iload F 2 dL_makes_114 rfl ?_
                  refine z_iload F 1 dL_makes_116 rfl ?_
                  refine z_icmp_ne (tgt := 132) F dL_makes_118 (by decide) (fun c29 => ?_) (fun c29 => ?_)
                  · exact absurd (by rw [hft]) c29
                  · refine z_iload F 0 dL_makes_121 rfl ?_
                    refine z_sipush (v := (-1002)) F dL_makes_123 (by decide) ?_
                    refine z_icmp_eq (tgt := 148) F dL_makes_126 (by decide) (fun c30 => ?_) (fun c30 => ?_)
                    · refine z_iinc (v := nI (m1 + 1)) (lv' := [(3, .int (nI (m1 + 1))), (7, .int (-1002)), (6, .int (nI to1)), (5, .int (nI fr1)), (4, .int (f_at sn xs (nI (2 + m1)))), (0, .ref (a 0)), (1, .ref sb), (2, .int (nI n1))]) F dL_makes_148 7 rfl (nI_1 m1) (by decide) rfl ?_
                      refine z_goto (tgt := 59) F dL_makes_151 (by decide) ?_
                      refine z_loc (lv' := [(0, .ref (a 0)), (1, .ref sb), (2, .int (nI n1)), (3, .int (nI (m1 + 1)))]) [5, 6, 7, 0] rfl ?_
                      refine z_wide (k := 9 + (m1 + 1)) (n := 54 + 6 * (m1 + 1)) (by first | exact Nat.le_of_ble_eq_true rfl | omega) (by first | exact Nat.le_of_ble_eq_true rfl | omega) ?_
                      exact ih59 (m1 + 1) k1 (by omega) (by omega) hM (by omega) (by omega) hN hC hI0 hS0 hV0
                    · exact absurd (by decide) c30
                · rcases hD.2 hft with hf109 | hf109
                  · obtain ⟨e1, e2⟩ := hw109.1 hf109
                    subst e2
                    obtain ⟨hM109, h109⟩ := zMd_debt hM hf109
                    have e3 : 1 ≤ r109 := by rw [e1]; exact z_leT.mpr h109
                    refine z_ws (ws' := (sysD g a ((pushK k1 (lDebt (kL k1) (nI fr1) (nI to1) (nI (1 + t1))))) x o j)) rfl ?_
                    refine z_istore (lv' := [(7, .int r109), (6, .int (nI to1)), (5, .int (nI fr1)), (4, .int (f_at sn xs (nI (2 + m1)))), (0, .ref (a 0)), (1, .ref sb), (2, .int (nI n1)), (3, .int (nI m1))]) F dL_makes_112 (by decide) rfl ?_
                    refine z_iload F 2 dL_makes_114 rfl ?_
                    refine z_iload F 1 dL_makes_116 rfl ?_
                    refine z_icmp_ne (tgt := 132) F dL_makes_118 (by decide) (fun c31 => ?_) (fun c31 => ?_)
                    · refine z_iload F 0 dL_makes_132 rfl ?_
                      refine z_iconst (v := 1) F dL_makes_134 (by decide) ?_
                      refine z_icmp_ge (tgt := 148) F dL_makes_135 (by decide) (fun c32 => ?_) (fun c32 => ?_)
                      · refine z_iinc (v := nI (m1 + 1)) (lv' := [(3, .int (nI (m1 + 1))), (7, .int r109), (6, .int (nI to1)), (5, .int (nI fr1)), (4, .int (f_at sn xs (nI (2 + m1)))), (0, .ref (a 0)), (1, .ref sb), (2, .int (nI n1))]) F dL_makes_148 7 rfl (nI_1 m1) (by decide) rfl ?_
                        refine z_goto (tgt := 59) F dL_makes_151 (by decide) ?_
                        refine z_loc (lv' := [(0, .ref (a 0)), (1, .ref sb), (2, .int (nI n1)), (3, .int (nI (m1 + 1)))]) [5, 6, 7, 0] rfl ?_
                        refine z_wide (k := 9 + (m1 + 1)) (n := 54 + 6 * (m1 + 1)) (by first | exact Nat.le_of_ble_eq_true rfl | omega) (by first | exact Nat.le_of_ble_eq_true rfl | omega) ?_
                        exact ih59 (m1 + 1) ((pushK k1 (lDebt (kL k1) (nI fr1) (nI to1) (nI (1 + t1))))) (by omega) (by omega) hM109 (by omega) (by omega) (Nat.mod_lt _ (by decide)) (show min (kC k1 + 1) 8 < 9 by omega) hI0 hS0 hV0
                      · exact absurd e3 c32
                    · exact absurd ((nI_eq (by omega) (by omega)).mp c31) hft
                  · obtain ⟨e1, e2⟩ := hw109.2 (by rw [hf109]; decide)
                    have e2 := e2.symm
                    subst e2
                    rw [hf109] at e1
                    refine z_top (y := -1004) e1 ?_
                    refine z_istore (lv' := [(7, .int (-1004)), (6, .int (nI to1)), (5, .int (nI fr1)), (4, .int (f_at sn xs (nI (2 + m1)))), (0, .ref (a 0)), (1, .ref sb), (2, .int (nI n1)), (3, .int (nI m1))]) F dL_makes_112 (by decide) rfl ?_
                    refine z_iload F 2 dL_makes_114 rfl ?_
                    refine z_iload F 1 dL_makes_116 rfl ?_
                    refine z_icmp_ne (tgt := 132) F dL_makes_118 (by decide) (fun c33 => ?_) (fun c33 => ?_)
                    · refine z_iload F 0 dL_makes_132 rfl ?_
                      refine z_iconst (v := 1) F dL_makes_134 (by decide) ?_
                      refine z_icmp_ge (tgt := 148) F dL_makes_135 (by decide) (fun c34 => ?_) (fun c34 => ?_)
                      · exact absurd c34 (by decide)
                      · refine z_iload F 0 dL_makes_138 rfl ?_
                        refine z_sipush (v := (-1004)) F dL_makes_140 (by decide) ?_
                        refine z_icmp_eq (tgt := 148) F dL_makes_143 (by decide) (fun c35 => ?_) (fun c35 => ?_)
                        · refine z_iinc (v := nI (m1 + 1)) (lv' := [(3, .int (nI (m1 + 1))), (7, .int (-1004)), (6, .int (nI to1)), (5, .int (nI fr1)), (4, .int (f_at sn xs (nI (2 + m1)))), (0, .ref (a 0)), (1, .ref sb), (2, .int (nI n1))]) F dL_makes_148 7 rfl (nI_1 m1) (by decide) rfl ?_
                          refine z_goto (tgt := 59) F dL_makes_151 (by decide) ?_
                          refine z_loc (lv' := [(0, .ref (a 0)), (1, .ref sb), (2, .int (nI n1)), (3, .int (nI (m1 + 1)))]) [5, 6, 7, 0] rfl ?_
                          refine z_wide (k := 9 + (m1 + 1)) (n := 54 + 6 * (m1 + 1)) (by first | exact Nat.le_of_ble_eq_true rfl | omega) (by first | exact Nat.le_of_ble_eq_true rfl | omega) ?_
                          exact ih59 (m1 + 1) k1 (by omega) (by omega) hM (by omega) (by omega) hN hC hI0 hS0 hV0
                        · exact absurd (by decide) c35
                    · exact absurd ((nI_eq (by omega) (by omega)).mp c33) hft
          refine z_loc (lv' := [(0, .ref (a 0)), (1, .ref sb), (2, .int (nI n1)), (3, .int (nI 0))]) [1, 2, 3, 0] rfl ?_
          refine z_wide (k := 9 + 0) (n := 54 + 6 * 0) (by first | exact Nat.le_of_ble_eq_true rfl | omega) (by first | exact Nat.le_of_ble_eq_true rfl | omega) ?_
          exact L59 _ 0 ((pushK k1 (lHrc (kL k1) (nI h1)))) (Nat.lt_succ_self _) (by omega) (zMd_hrc hM (by rw [nI_toInt (by omega)]; exact Int.natCast_nonneg _)) (by omega) (by omega) (Nat.mod_lt _ (by decide)) (show min (kC k1 + 1) 8 < 9 by omega) hI0 hS0 hV0
        · exact absurd e3 c10
      · have hmm : m1 < n1 := z_lt (by omega) (by omega) c5
        refine z_aload_n F 0 dL_makes_20 rfl rfl ?_
        refine z_sysi (wf := fun k21 => (sysD g a k21 x o j)) F (z_sysW (X := sysD g a k1 x o j) (Y := []) (st := []) F ((zEnvL_ok er D g dg ec fs fv qa sw sb sn xs)) E (fun sz => c_L_addMember l hl9 D g er dg ec fs fv qa sw sb sn xs a k1 x o j ((by rw [hM.1.1]; exact hM.1.2)) (hN) (hC) sz) (vx_cwSW 1 F.1.2.2.2.2 gL_makes_L_addMember rfl rfl rfl (by decide +kernel) ⟨Nat.le_of_ble_eq_true rfl, Nat.le_of_ble_eq_true rfl⟩) (List.append_nil _).symm [] rfl rfl (by decide) rfl rfl (Nat.le_of_ble_eq_true rfl) dL_makes_21 ⟨by dsimp only; omega, by dsimp only; omega⟩) (List.append_nil _).symm (fun _ => rfl) (fun _ => List.append_nil _) (fun r21 k21 hw21 => ?_)
        obtain ⟨hf21, hM21⟩ := zMd_join hM (show m1 < 8 by omega)
        obtain ⟨e1, e2⟩ := hw21.1 hf21
        subst e2
        refine z_ws (ws' := (sysD g a ((pushK k1 (lJoin (kL k1)))) x o j)) rfl ?_
        have e3 : r21 = nI m1 := by rw [e1, hM.1.1]
        refine z_iload_n F 3 dL_makes_24 rfl rfl ?_
        refine z_icmp_eq (tgt := 30) F dL_makes_25 (by decide) (fun c36 => ?_) (fun c36 => ?_)
        · refine z_iinc (v := nI (m1 + 1)) (lv' := [(3, .int (nI (m1 + 1))), (0, .ref (a 0)), (1, .ref sb), (2, .int (nI n1))]) F dL_makes_30 3 rfl (nI_1 m1) (by decide) rfl ?_
          refine z_goto (tgt := 15) F dL_makes_33 (by decide) ?_
          refine z_loc (lv' := [(0, .ref (a 0)), (1, .ref sb), (2, .int (nI n1)), (3, .int (nI (m1 + 1)))]) [1, 2, 3, 0] rfl ?_
          refine z_wide (k := m1 + 1) (n := 6 * (m1 + 1)) (by first | exact Nat.le_of_ble_eq_true rfl | omega) (by first | exact Nat.le_of_ble_eq_true rfl | omega) ?_
          exact ih15 (m1 + 1) ((pushK k1 (lJoin (kL k1)))) (by omega) (by omega) hM21 hH (by omega) (by omega) (Nat.mod_lt _ (by decide)) (show min (kC k1 + 1) 8 < 9 by omega) hI0 hS0 hV0
        · exact absurd e3 c36
  refine z_loc (lv' := [(0, .ref (a 0)), (1, .ref sb), (2, .int (nI n1)), (3, .int (nI 0))]) [2, 3, 1, 0] rfl ?_
  refine z_wide (k := 0) (n := 6 * 0) (by first | exact Nat.le_of_ble_eq_true rfl | omega) (by first | exact Nat.le_of_ble_eq_true rfl | omega) ?_
  exact L15 _ 0 k (Nat.lt_succ_self _) (by omega) hM0 hH0 (by omega) (by omega) hn hc9 hi0 rfl rfl
