theorem z_pm {p : Nat} (h : 1 ≤ p) : nI p + Int32.ofInt (-1) = nI (p - 1) := by
  obtain ⟨n, rfl⟩ : ∃ n, p = n + 1 := ⟨p - 1, by omega⟩
  exact pk_m1 n
theorem z_geN {x : Int32} {m k : Nat} {y : Int32} (hx : x.toInt = -(m : Int)) (hy : y.toInt = -(k : Int)) : y ≤ x ↔ m ≤ k := by
  rw [Int32.le_iff_toInt_le, hx, hy]
  omega
theorem z_zs {b : Nat → Int8} {j : Nat} {v : Int32} : zUp b j v j = v.toInt8 := if_pos rfl
theorem z_zn {b : Nat → Int8} {j k : Nat} {v : Int32} (h : k ≠ j) : zUp b j v k = b k := if_neg h
theorem z_gj {f1 : Nat → Int8} {n ix ps q m : Nat} (hm : m = n / 100 ^ q) (hps : ps + 2 * q = ix) (h2 : 2 ≤ ps) (hj : ∀ j, j < 2 * q → f1 (ix - 1 - j) = f_dc n j) : ∀ j, j < 2 * (q + 1) → zUp (zUp f1 (ps - 1) (f_one (m % 100))) (ps - 2) (f_ten (m % 100)) (ix - 1 - j) = f_dc n j := by
  intro j hj1
  by_cases e1 : j = 2 * q + 1
  · subst e1
    rw [show ix - 1 - (2 * q + 1) = ps - 2 by omega, z_zs, f_dc1, hm]
    rfl
  · rw [z_zn (by omega)]
    by_cases e0 : j = 2 * q
    · subst e0
      rw [show ix - 1 - 2 * q = ps - 1 by omega, z_zs, f_dc0, hm]
      rfl
    · rw [z_zn (by omega)]
      exact hj j (by omega)
theorem z_gf {f1 bp : Nat → Int8} {ix ps : Nat} {x y : Int32} (h2 : 2 ≤ ps) (hps : ps ≤ ix) (hf : ∀ k, k < ps ∨ ix ≤ k → f1 k = bp k) : ∀ k, k < ps - 2 ∨ ix ≤ k → zUp (zUp f1 (ps - 1) x) (ps - 2) y k = bp k := by
  intro k hk
  rw [z_zn (by omega), z_zn (by omega)]
  exact hf k (by omega)
theorem z_gA {f1 bp : Nat → Int8} {n ix ps q m : Nat} (hm : m = n / 100 ^ q) (hm1 : m ≤ 9) (hps : ps + 2 * q = ix) (h1 : 1 ≤ ps) (hdl : f_dl n = 2 * q + f_dl m) (hj : ∀ j, j < 2 * q → f1 (ix - 1 - j) = f_dc n j) (hf : ∀ k, k < ps ∨ ix ≤ k → f1 k = bp k) :
    ps - 1 + f_dl n = ix ∧ (∀ j, j < f_dl n → zUp f1 (ps - 1) (f_one m) (ix - 1 - j) = f_dc n j) ∧ ∀ k, k < ps - 1 ∨ ix ≤ k → zUp f1 (ps - 1) (f_one m) k = bp k := by
  have hd : f_dl m = 1 := if_pos (by omega)
  refine ⟨by omega, fun j hj1 => ?_, fun k hk => ?_⟩
  · by_cases e0 : j = 2 * q
    · subst e0
      rw [show ix - 1 - 2 * q = ps - 1 by omega, z_zs, f_dc0, ← hm, f_one8, show m % 100 = m by omega]
    · rw [z_zn (by omega)]
      exact hj j (by omega)
  · rw [z_zn (by omega)]
    exact hf k (by omega)
theorem z_gB {f1 bp : Nat → Int8} {n ix ps q m : Nat} (hm : m = n / 100 ^ q) (hm1 : ¬ m ≤ 9) (hm2 : m < 100) (hps : ps + 2 * q = ix) (h2 : 2 ≤ ps) (hdl : f_dl n = 2 * q + f_dl m) (hj : ∀ j, j < 2 * q → f1 (ix - 1 - j) = f_dc n j) (hf : ∀ k, k < ps ∨ ix ≤ k → f1 k = bp k) :
    ps - 2 + f_dl n = ix ∧ (∀ j, j < f_dl n → zUp (zUp f1 (ps - 1) (f_one m)) (ps - 2) (f_ten m) (ix - 1 - j) = f_dc n j) ∧ ∀ k, k < ps - 2 ∨ ix ≤ k → zUp (zUp f1 (ps - 1) (f_one m)) (ps - 2) (f_ten m) k = bp k := by
  have hd : f_dl m = 2 := by rw [f_dl_small hm2]; exact if_neg (by omega)
  have e : m % 100 = m := by omega
  have h3 := z_gj hm hps h2 hj
  rw [e] at h3
  exact ⟨by omega, fun j hj1 => h3 j (by omega), z_gf h2 (by omega) hf⟩
theorem z_sg0 {v ng : Int32} (h : ng = nI (f_sg v)) (c : ng = 0) : f_sg v = 0 := by
  unfold f_sg at *
  split
  · next hv => rw [if_pos hv, c] at h; exact absurd h (by decide)
  · rfl
theorem z_sg1 {v ng : Int32} (h : ng = nI (f_sg v)) (c : ¬ ng = 0) : f_sg v = 1 := by
  unfold f_sg at *
  split
  · rfl
  · next hv => rw [if_neg hv] at h; exact absurd h c
theorem z_gE0 {f2 bp : Nat → Int8} {v : Int32} {ix ps : Nat} (hs : f_sg v = 0) (hps : ps + f_dl (f_ab v) = ix) (hj : ∀ j, j < f_dl (f_ab v) → f2 (ix - 1 - j) = f_dc (f_ab v) j) (hf : ∀ k, k < ps ∨ ix ≤ k → f2 k = bp k) :
    nI ps = nI (ix - f_sz v) ∧ (∀ k, k < ix - f_sz v ∨ ix ≤ k → f2 k = bp k) ∧ ∀ t, t < f_sz v → f2 (ix - f_sz v + t) = f_dg v t := by
  have e : f_sz v = f_dl (f_ab v) := by rw [f_sz, hs, Nat.zero_add]
  refine ⟨by rw [show ps = ix - f_sz v by omega], fun k hk => hf k (by omega), fun t ht => ?_⟩
  unfold f_dg
  rw [if_pos (by omega), ← hj _ (by omega), show ix - f_sz v + t = ix - 1 - (f_sz v - 1 - t) by omega]
theorem z_gE1 {f2 bp : Nat → Int8} {v : Int32} {ix ps : Nat} (hs : f_sg v = 1) (h1 : 1 ≤ ps) (hps : ps + f_dl (f_ab v) = ix) (hj : ∀ j, j < f_dl (f_ab v) → f2 (ix - 1 - j) = f_dc (f_ab v) j) (hf : ∀ k, k < ps ∨ ix ≤ k → f2 k = bp k) :
    nI (ps - 1) = nI (ix - f_sz v) ∧ (∀ k, k < ix - f_sz v ∨ ix ≤ k → zUp f2 (ps - 1) 45 k = bp k) ∧ ∀ t, t < f_sz v → zUp f2 (ps - 1) 45 (ix - f_sz v + t) = f_dg v t := by
  have e : f_sz v = 1 + f_dl (f_ab v) := by rw [f_sz, hs]
  refine ⟨by rw [show ps - 1 = ix - f_sz v by omega], fun k hk => ?_, fun t ht => ?_⟩
  · rw [z_zn (by omega)]
    exact hf k (by omega)
  · unfold f_dg
    by_cases h0 : t = 0
    · subst h0
      rw [if_neg (by omega), show ix - f_sz v + 0 = ps - 1 by omega, z_zs]
      rfl
    · rw [if_pos (by omega), z_zn (by omega), ← hj _ (by omega), show ix - f_sz v + t = ix - 1 - (f_sz v - 1 - t) by omega]
set_option maxHeartbeats 4000000 in
set_option maxRecDepth 100000 in
theorem c_J6_getChars_ba4f3 (l : Launch) (D : va_G) (g : Nat → ClassId) (dg : Nat → Nat) (b1 : Nat) (bc : Nat) (bp : Nat → Int8) (v : Int32) (ix : Nat) (hsz : f_sz v ≤ ix) (hix : ix ≤ bc) (hb3 : bc ≤ 300) (sz : Nat) : Met l yJ6_getChars_ba4f3 wsJ6_getChars_ba4f3 { frames := 0, cells := 0, slots := 0, locals := 0 } (zPc D (gT g) (zJ D g dg) [.int v, .int (nI ix), .ref b1] [(b1, .inl (g 3, bc, .inl ((zBy bp))))] [] sz) (zQi D [(b1, .inl (g 3, bc, .inl ((zBy bp))))] (fun (r : Int32) (u : Nat → Int8) => r = nI (ix - f_sz v) ∧ (∀ k, k < ix - f_sz v ∨ ix ≤ k → u k = bp k) ∧ ∀ t, t < f_sz v → u (ix - f_sz v + t) = f_dg v t) (fun (u9 : Nat → Int8) => [(b1, .inl (g 3, bc, .inl ((zBy u9))))]) sz) 0 0 (va_A [(b1, .inl (g 3, bc, .inl ((zBy bp))))] sz) := by
  refine z_met (y := yJ6_getChars_ba4f3) (cc := cJ6_getChars_ba4f3) (nL := 7) (rm := { frames := 0, cells := 0, slots := 0, locals := 0 }) (D := D) (tys := gT g) (wr := []) (P0 := zJ D g dg) (As := [.int v, .int (nI ix), .ref b1]) (ww := [(b1, .inl (g 3, bc, .inl ((zBy bp))))]) (Qc := zQi D [(b1, .inl (g 3, bc, .inl ((zBy bp))))] (fun (r : Int32) (u : Nat → Int8) => r = nI (ix - f_sz v) ∧ (∀ k, k < ix - f_sz v ∨ ix ≤ k → u k = bp k) ∧ ∀ t, t < f_sz v → u (ix - f_sz v + t) = f_dg v t) (fun (u9 : Nat → Int8) => [(b1, .inl (g 3, bc, .inl ((zBy u9))))])) (ret := (some .int)) (by decide) rfl (Nat.le_of_ble_eq_true rfl) ?_ sz
  intro p e s m args below meth c A Q hA hQ F E hr hlk hin
  have hz0 : f_sz v = f_sg v + f_dl (f_ab v) := rfl
  have hz1 := f_dl_pos (f_ab v)
  have L104 : ∀ (ng : Int32) (ps2 : Nat) (f2 : Nat → Int8) (hng : ng = nI (f_sg v)) (hp2 : ps2 + f_dl (f_ab v) = ix) (hj2 : ∀ j, j < f_dl (f_ab v) → f2 (ix - 1 - j) = f_dc (f_ab v) j) (hf2 : ∀ k, k < ps2 ∨ ix ≤ k → f2 k = bp k), zW p l e { frames := 0, cells := 0, slots := 0, locals := 0 } s m args below meth c 7 D A Q 0 0 [(b1, .inl (g 3, bc, .inl ((zBy f2))))] [(2, .ref b1), (5, .int (nI ps2)), (6, .int ng)] [] 104 := by
    intro ng ps2 f2 hng hp2 hj2 hf2
    refine z_iload F 2 dJ6_getChars_ba4f3_104 rfl ?_
    refine z_if_eq (tgt := 118) F dJ6_getChars_ba4f3_106 (by decide) (fun c1 => ?_) (fun c1 => ?_)
    · have hs0 := z_sg0 hng c1
      refine z_iload F 1 dJ6_getChars_ba4f3_118 rfl ?_
      exact z_iret F hA hQ hlk hr (f2) (z_gE0 hs0 hp2 hj2 hf2) (rfl) dJ6_getChars_ba4f3_120
    · have hs1 := z_sg1 hng c1
      have hp3 : 1 ≤ ps2 := by omega
      refine z_aload_n F 0 dJ6_getChars_ba4f3_109 rfl rfl ?_
      refine z_iinc (v := nI (ps2 - 1)) (lv' := [(5, .int (nI (ps2 - 1))), (2, .ref b1), (6, .int ng)]) F dJ6_getChars_ba4f3_110 1 rfl (z_pm (by omega)) (by decide) rfl ?_
      refine z_iload F 0 dJ6_getChars_ba4f3_113 rfl ?_
      refine z_bipush (v := 45) F dJ6_getChars_ba4f3_115 (by decide) ?_
      refine z_bastN (j := ps2 - 1) (ws' := [(b1, .inl (g 3, bc, .inl (upd ((zBy f2)) (ps2 - 1) (vp_nar .byte 45))))]) F 0 3 rfl rfl (by omega) (by omega) rfl dJ6_getChars_ba4f3_117 ?_
      refine z_cext (f' := (zBy (zUp f2 (ps2 - 1) 45))) (ws' := [(b1, .inl (g 3, bc, .inl ((zBy (zUp f2 (ps2 - 1) 45)))))]) 0 rfl (z_upP f2 (ps2 - 1) 45 _) rfl ?_
      refine z_iload F 0 dJ6_getChars_ba4f3_118 rfl ?_
      exact z_iret F hA hQ hlk hr (zUp f2 (ps2 - 1) 45) (z_gE1 hs1 hp3 hp2 hj2 hf2) (rfl) dJ6_getChars_ba4f3_120
  have L22 : ∀ (N22_ : Nat) (x : Int32) (ng : Int32) (ps : Nat) (q : Nat) (mm : Nat) (f1 : Nat → Int8) (hN22_ : mm < N22_) (hm : mm = f_ab v / 100 ^ q) (hx : x.toInt = -(mm : Int)) (hng : ng = nI (f_sg v)) (hdl : f_dl (f_ab v) = 2 * q + f_dl mm) (hps : ps + 2 * q = ix) (hj : ∀ j, j < 2 * q → f1 (ix - 1 - j) = f_dc (f_ab v) j) (hfr : ∀ k, k < ps ∨ ix ≤ k → f1 k = bp k), zW p l e { frames := 0, cells := 0, slots := 0, locals := 0 } s m args below meth c 7 D A Q 0 0 [(b1, .inl (g 3, bc, .inl ((zBy f1))))] [(0, .int x), (2, .ref b1), (5, .int (nI ps)), (6, .int ng)] [] 22 := by
    intro N22_
    induction N22_ with
    | zero =>
      intro x ng ps q mm f1 hN22_
      exact absurd hN22_ (Nat.not_lt_zero _)
    | succ N22_ ih22 =>
      intro x ng ps q mm f1 hN22_ hm hx hng hdl hps hj hfr
      refine z_iload_n F 0 dJ6_getChars_ba4f3_22 rfl rfl ?_
      refine z_bipush (v := (-100)) F dJ6_getChars_ba4f3_23 (by decide) ?_
      refine z_icmp_gt (tgt := 72) F dJ6_getChars_ba4f3_25 (by decide) (fun c2 => ?_) (fun c2 => ?_)
      · have hm1 : mm < 100 := (z_gtN (k := 100) hx (by decide)).mp c2
        have hmb : mm ≤ 2147483648 := Nat.le_trans (by rw [hm]; exact Nat.div_le_self _ _) (f_ab_le v)
        have hdp := f_dl_pos mm
        have hps1 : 1 ≤ ps := by omega
        refine z_aload_n F 1 dJ6_getChars_ba4f3_72 rfl rfl ?_
        refine z_iinc (v := nI (ps - 1)) (lv' := [(5, .int (nI (ps - 1))), (0, .int x), (2, .ref b1), (6, .int ng)]) F dJ6_getChars_ba4f3_73 2 rfl (z_pm (by omega)) (by decide) rfl ?_
        refine z_iload F 0 dJ6_getChars_ba4f3_76 rfl ?_
        refine z_gets F E.2.2.1 (List.mem_cons_of_mem _ (List.mem_of_getElem? (i := 0) rfl)) dJ6_getChars_ba4f3_78 ?_
        refine z_iload_n F 1 dJ6_getChars_ba4f3_81 rfl rfl ?_
        refine z_ineg F dJ6_getChars_ba4f3_82 ?_
        refine z_top (y := nI mm) (z_negN hx (by omega)) ?_
        refine z_baldE (j := mm) F E.2.2.2.2.1 (by omega) (by decide) dJ6_getChars_ba4f3_83 ?_
        refine z_bastN (j := ps - 1) (ws' := [(b1, .inl (g 3, bc, .inl (upd ((zBy f1)) (ps - 1) (vp_nar .byte (f_one mm)))))]) F 0 3 rfl rfl (by omega) (by omega) rfl dJ6_getChars_ba4f3_84 ?_
        refine z_cext (f' := (zBy (zUp f1 (ps - 1) (f_one mm)))) (ws' := [(b1, .inl (g 3, bc, .inl ((zBy (zUp f1 (ps - 1) (f_one mm))))))]) 0 rfl (z_upP f1 (ps - 1) (f_one mm) _) rfl ?_
        refine z_iload_n F 1 dJ6_getChars_ba4f3_85 rfl rfl ?_
        refine z_bipush (v := (-9)) F dJ6_getChars_ba4f3_86 (by decide) ?_
        refine z_icmp_ge (tgt := 104) F dJ6_getChars_ba4f3_88 (by decide) (fun c3 => ?_) (fun c3 => ?_)
        · have hm9 : mm ≤ 9 := (z_geN (k := 9) hx (by decide)).mp c3
          have hE := z_gA hm hm9 hps hps1 hdl hj hfr
          refine z_loc (lv' := [(2, .ref b1), (5, .int (nI (ps - 1))), (6, .int ng)]) [2, 0, 3] rfl ?_
          exact L104 ng (ps - 1) (zUp f1 (ps - 1) (f_one mm)) hng hE.1 hE.2.1 hE.2.2
        · have hm9 : ¬ mm ≤ 9 := fun z9 => c3 ((z_geN (k := 9) hx (by decide)).mpr z9)
          have hps2 : 2 ≤ ps := by have h5 : f_dl mm = 2 := (by rw [f_dl_small hm1]; exact if_neg (by omega)); omega
          have hE := z_gB hm hm9 hm1 hps hps2 hdl hj hfr
          refine z_aload_n F 2 dJ6_getChars_ba4f3_91 rfl rfl ?_
          refine z_iinc (v := nI (ps - 2)) (lv' := [(5, .int (nI (ps - 2))), (0, .int x), (2, .ref b1), (6, .int ng)]) F dJ6_getChars_ba4f3_92 0 rfl ((z_pm (by omega)).trans (by rw [show ps - 1 - 1 = ps - 2 by omega])) (by decide) rfl ?_
          refine z_iload F 0 dJ6_getChars_ba4f3_95 rfl ?_
          refine z_gets F E.2.2.2.1 (List.mem_cons_of_mem _ (List.mem_of_getElem? (i := 1) rfl)) dJ6_getChars_ba4f3_97 ?_
          refine z_iload_n F 1 dJ6_getChars_ba4f3_100 rfl rfl ?_
          refine z_ineg F dJ6_getChars_ba4f3_101 ?_
          refine z_top (y := nI mm) (z_negN hx (by omega)) ?_
          refine z_baldE (j := mm) F E.2.2.2.2.2 (by omega) (by decide) dJ6_getChars_ba4f3_102 ?_
          refine z_bastN (j := ps - 2) (ws' := [(b1, .inl (g 3, bc, .inl (upd ((zBy (zUp f1 (ps - 1) (f_one mm)))) (ps - 2) (vp_nar .byte (f_ten mm)))))]) F 0 3 rfl rfl (by omega) (by omega) rfl dJ6_getChars_ba4f3_103 ?_
          refine z_cext (f' := (zBy (zUp ((zUp f1 (ps - 1) (f_one mm))) (ps - 2) (f_ten mm)))) (ws' := [(b1, .inl (g 3, bc, .inl ((zBy (zUp ((zUp f1 (ps - 1) (f_one mm))) (ps - 2) (f_ten mm))))))]) 0 rfl (z_upP ((zUp f1 (ps - 1) (f_one mm))) (ps - 2) (f_ten mm) _) rfl ?_
          refine z_loc (lv' := [(2, .ref b1), (5, .int (nI (ps - 2))), (6, .int ng)]) [2, 0, 3] rfl ?_
          exact L104 ng (ps - 2) (zUp ((zUp f1 (ps - 1) (f_one mm))) (ps - 2) (f_ten mm)) hng hE.1 hE.2.1 hE.2.2
      · have hm1 : 100 ≤ mm := Nat.le_of_not_lt (fun z9 => c2 ((z_gtN (k := 100) hx (by decide)).mpr z9))
        have hmb : mm ≤ 2147483648 := Nat.le_trans (by rw [hm]; exact Nat.div_le_self _ _) (f_ab_le v)
        have hps2 : 2 ≤ ps := by have h5 := f_dl_100 hm1 hmb; omega
        refine z_iload_n F 0 dJ6_getChars_ba4f3_28 rfl rfl ?_
        refine z_bipush (v := 100) F dJ6_getChars_ba4f3_29 (by decide) ?_
        refine z_idiv F dJ6_getChars_ba4f3_31 (by decide) ?_
        refine z_istore_n (lv' := [(3, .int (x / 100)), (0, .int x), (2, .ref b1), (5, .int (nI ps)), (6, .int ng)]) F dJ6_getChars_ba4f3_32 rfl (by decide) rfl ?_
        refine z_iload_n F 0 dJ6_getChars_ba4f3_33 rfl rfl ?_
        refine z_bipush (v := 100) F dJ6_getChars_ba4f3_34 (by decide) ?_
        refine z_imul F dJ6_getChars_ba4f3_36 ?_
        refine z_iload_n F 1 dJ6_getChars_ba4f3_37 rfl rfl ?_
        refine z_isub F dJ6_getChars_ba4f3_38 ?_
        refine z_top (y := nI (mm % 100)) (z_rem100 hx hmb) ?_
        refine z_istore (lv' := [(4, .int (nI (mm % 100))), (3, .int (x / 100)), (0, .int x), (2, .ref b1), (5, .int (nI ps)), (6, .int ng)]) F dJ6_getChars_ba4f3_39 (by decide) rfl ?_
        refine z_iload_n F 1 dJ6_getChars_ba4f3_41 rfl rfl ?_
        refine z_istore_n (lv' := [(0, .int (x / 100)), (4, .int (nI (mm % 100))), (3, .int (x / 100)), (2, .ref b1), (5, .int (nI ps)), (6, .int ng)]) F dJ6_getChars_ba4f3_42 rfl (by decide) rfl ?_
        refine z_aload_n F 3 dJ6_getChars_ba4f3_43 rfl rfl ?_
        refine z_iinc (v := nI (ps - 1)) (lv' := [(5, .int (nI (ps - 1))), (0, .int (x / 100)), (4, .int (nI (mm % 100))), (3, .int (x / 100)), (2, .ref b1), (6, .int ng)]) F dJ6_getChars_ba4f3_44 4 rfl (z_pm (by omega)) (by decide) rfl ?_
        refine z_iload F 0 dJ6_getChars_ba4f3_47 rfl ?_
        refine z_gets F E.2.2.1 (List.mem_cons_of_mem _ (List.mem_of_getElem? (i := 0) rfl)) dJ6_getChars_ba4f3_49 ?_
        refine z_iload F 2 dJ6_getChars_ba4f3_52 rfl ?_
        refine z_baldE (j := mm % 100) F E.2.2.2.2.1 (by omega) (by decide) dJ6_getChars_ba4f3_54 ?_
        refine z_bastN (j := ps - 1) (ws' := [(b1, .inl (g 3, bc, .inl (upd ((zBy f1)) (ps - 1) (vp_nar .byte (f_one (mm % 100))))))]) F 0 3 rfl rfl (by omega) (by omega) rfl dJ6_getChars_ba4f3_55 ?_
        refine z_cext (f' := (zBy (zUp f1 (ps - 1) (f_one (mm % 100))))) (ws' := [(b1, .inl (g 3, bc, .inl ((zBy (zUp f1 (ps - 1) (f_one (mm % 100)))))))]) 0 rfl (z_upP f1 (ps - 1) (f_one (mm % 100)) _) rfl ?_
        refine z_aload_n F 4 dJ6_getChars_ba4f3_56 rfl rfl ?_
        refine z_iinc (v := nI (ps - 2)) (lv' := [(5, .int (nI (ps - 2))), (0, .int (x / 100)), (4, .int (nI (mm % 100))), (3, .int (x / 100)), (2, .ref b1), (6, .int ng)]) F dJ6_getChars_ba4f3_57 0 rfl ((z_pm (by omega)).trans (by rw [show ps - 1 - 1 = ps - 2 by omega])) (by decide) rfl ?_
        refine z_iload F 0 dJ6_getChars_ba4f3_60 rfl ?_
        refine z_gets F E.2.2.2.1 (List.mem_cons_of_mem _ (List.mem_of_getElem? (i := 1) rfl)) dJ6_getChars_ba4f3_62 ?_
        refine z_iload F 2 dJ6_getChars_ba4f3_65 rfl ?_
        refine z_baldE (j := mm % 100) F E.2.2.2.2.2 (by omega) (by decide) dJ6_getChars_ba4f3_67 ?_
        refine z_bastN (j := ps - 2) (ws' := [(b1, .inl (g 3, bc, .inl (upd ((zBy (zUp f1 (ps - 1) (f_one (mm % 100))))) (ps - 2) (vp_nar .byte (f_ten (mm % 100))))))]) F 0 3 rfl rfl (by omega) (by omega) rfl dJ6_getChars_ba4f3_68 ?_
        refine z_cext (f' := (zBy (zUp ((zUp f1 (ps - 1) (f_one (mm % 100)))) (ps - 2) (f_ten (mm % 100))))) (ws' := [(b1, .inl (g 3, bc, .inl ((zBy (zUp ((zUp f1 (ps - 1) (f_one (mm % 100)))) (ps - 2) (f_ten (mm % 100)))))))]) 0 rfl (z_upP ((zUp f1 (ps - 1) (f_one (mm % 100)))) (ps - 2) (f_ten (mm % 100)) _) rfl ?_
        refine z_goto (tgt := 22) F dJ6_getChars_ba4f3_69 (by decide) ?_
        refine z_loc (lv' := [(0, .int (x / 100)), (2, .ref b1), (5, .int (nI (ps - 2))), (6, .int ng)]) [1, 4, 0, 5] rfl ?_
        exact ih22 (x / 100) ng (ps - 2) (q + 1) (mm / 100) (zUp ((zUp f1 (ps - 1) (f_one (mm % 100)))) (ps - 2) (f_ten (mm % 100))) (by omega) (by rw [hm, Nat.pow_succ, Nat.div_div_eq_div_mul]) (z_div100 hx hmb) hng (by rw [hdl, f_dl_100 hm1 hmb]; omega) (by omega) (z_gj hm hps hps2 hj) (z_gf hps2 (by omega) hfr)
  show zW p l e { frames := 0, cells := 0, slots := 0, locals := 0 } s m args below meth c 7 D A Q 0 0 [(b1, .inl (g 3, bc, .inl ((zBy bp))))] [(0, .int v), (1, .int (nI ix)), (2, .ref b1)] [] 0
  refine z_iload_n F 1 dJ6_getChars_ba4f3_0 rfl rfl ?_
  refine z_istore (lv' := [(5, .int (nI ix)), (0, .int v), (1, .int (nI ix)), (2, .ref b1)]) F dJ6_getChars_ba4f3_1 (by decide) rfl ?_
  refine z_iload_n F 1 dJ6_getChars_ba4f3_3 rfl rfl ?_
  refine z_if_ge (tgt := 11) F dJ6_getChars_ba4f3_4 (by decide) (fun c4 => ?_) (fun c4 => ?_)
  · refine z_iconst (v := 0) F dJ6_getChars_ba4f3_11 (by decide) ?_
    refine z_istore (lv' := [(6, .int 0), (5, .int (nI ix)), (0, .int v), (1, .int (nI ix)), (2, .ref b1)]) F dJ6_getChars_ba4f3_12 (by decide) rfl ?_
    refine z_iload F 0 dJ6_getChars_ba4f3_14 rfl ?_
    refine z_if_ne (tgt := 22) F dJ6_getChars_ba4f3_16 (by decide) (fun c5 => ?_) (fun c5 => ?_)
    · exact absurd (by decide) c5
    · refine z_iload_n F 2 dJ6_getChars_ba4f3_19 rfl rfl ?_
      refine z_ineg F dJ6_getChars_ba4f3_20 ?_
      refine z_istore_n (lv' := [(0, .int (-v)), (6, .int 0), (5, .int (nI ix)), (1, .int (nI ix)), (2, .ref b1)]) F dJ6_getChars_ba4f3_21 rfl (by decide) rfl ?_
      refine z_loc (lv' := [(0, .int (-v)), (2, .ref b1), (5, .int (nI ix)), (6, .int 0)]) [0, 4, 2, 1] rfl ?_
      exact L22 _ (-v) 0 ix 0 (f_ab v) bp (Nat.lt_succ_self _) (by rw [Nat.pow_zero, Nat.div_one]) (z_abF (Int32.not_lt.mpr c4)) (by rw [show f_sg v = 0 from if_neg (Int32.not_lt.mpr c4)]; rfl) (by omega) (by omega) (fun j hj => absurd hj (by omega)) (fun _ _ => rfl)
  · refine z_iconst (v := 1) F dJ6_getChars_ba4f3_7 (by decide) ?_
    refine z_goto (tgt := 12) F dJ6_getChars_ba4f3_8 (by decide) ?_
    refine z_istore (lv' := [(6, .int 1), (5, .int (nI ix)), (0, .int v), (1, .int (nI ix)), (2, .ref b1)]) F dJ6_getChars_ba4f3_12 (by decide) rfl ?_
    refine z_iload F 0 dJ6_getChars_ba4f3_14 rfl ?_
    refine z_if_ne (tgt := 22) F dJ6_getChars_ba4f3_16 (by decide) (fun c6 => ?_) (fun c6 => ?_)
    · refine z_loc (lv' := [(0, .int v), (2, .ref b1), (5, .int (nI ix)), (6, .int 1)]) [2, 4, 1, 0] rfl ?_
      exact L22 _ v 1 ix 0 (f_ab v) bp (Nat.lt_succ_self _) (by rw [Nat.pow_zero, Nat.div_one]) (z_abT (Int32.not_le.mp c4)) (by rw [show f_sg v = 1 from if_pos (Int32.not_le.mp c4)]; rfl) (by omega) (by omega) (fun j hj => absurd hj (by omega)) (fun _ _ => rfl)
    · exact absurd c6 (by decide)
