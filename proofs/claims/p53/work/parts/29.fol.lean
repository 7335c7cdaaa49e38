/-! READING A FORM -/
abbrev zR3 : Type := Nat × Nat × (Nat → Int32)
def f_sN (tx : Nat → Int32) (ln : Nat) (v : Int32) (s : zR3) : Int32 × zR3 := if f_hd tx ln s.1 = 0 then (0, s) else (1, f_rR tx ln v s.1, f_rC s.2.1, f_rU s.2.1 s.2.2 (f_rN tx ln v s.1))
def f_sL (tx : Nat → Int32) (ln : Nat) (c : Int32) (s : zR3) : Int32 × zR3 := if f_hasAt tx ln s.1 c = 0 then (0, s) else (1, s.1 + 1, s.2.1, s.2.2)
def f_st (tx : Nat → Int32) (ln : Nat) (c : Int32) (s : zR3) : Int32 × zR3 := if c = 35 then f_sN tx ln 0 s else if c = 64 then f_sN tx ln 1 s else f_sL tx ln c s
def f_foF (tx : Nat → Int32) (ln : Nat) (sb : Nat → Int8) : Nat → Nat → zR3 → Int32 × zR3
  | 0, _, s => (1, s)
  | k + 1, i, s => if (f_st tx ln (f_ch (zBy sb i)) s).1 = 0 then (0, (f_st tx ln (f_ch (zBy sb i)) s).2) else f_foF tx ln sb k (i + 1) (f_st tx ln (f_ch (zBy sb i)) s).2
def f_fo (tx : Nat → Int32) (ln : Nat) (sn : Nat) (sb : Nat → Int8) (x : Nat) (nu : Nat → Int32) : Int32 × zR3 := f_foF tx ln sb sn 0 (x, 0, nu)
theorem f_foF_go {tx : Nat → Int32} {ln : Nat} {sb : Nat → Int8} {k i : Nat} {s s' : zR3} {v c : Int32} (hc : c = f_ch (zBy sb i)) (h : f_st tx ln c s = (v, s')) (hv : ¬ v = 0) : f_foF tx ln sb (k + 1) i s = f_foF tx ln sb k (i + 1) s' := by
  subst hc
  rw [f_foF, h]
  exact if_neg hv
theorem f_foF_no {tx : Nat → Int32} {ln : Nat} {sb : Nat → Int8} {k i : Nat} {s s' : zR3} {c : Int32} (hc : c = f_ch (zBy sb i)) (h : f_st tx ln c s = (0, s')) : f_foF tx ln sb (k + 1) i s = (0, s') := by
  subst hc
  rw [f_foF, h]
  exact if_pos rfl
theorem f_rR_le {tx : Nat → Int32} {ln x : Nat} {v : Int32} (h : x < ln) (hl : ln < 2147483647) : f_rR tx ln v x ≤ ln := by
  unfold f_rR
  split
  · omega
  · next h1 =>
    unfold f_rT at h1
    split at h1
    · exact absurd rfl h1
    · have := z_hd h1 (by omega) (by omega)
      omega
theorem f_rC_le {n : Nat} (h : n ≤ 3) : f_rC n ≤ 3 := by
  unfold f_rC
  split <;> omega
set_option maxHeartbeats 4000000 in
set_option maxRecDepth 100000 in
theorem c_X3_follows (l : Launch) (D : va_G) (g : Nat → ClassId) (dg : Nat → Nat) (fs : Nat → Nat) (fv : Nat → Nat) (ti : Nat) (k0 : Nat) (k1 : Nat) (k2 : Nat) (ln : Nat) (nc : Nat) (cc9 : Int32) (re : Nat) (en : Nat) (ch : Nat → Int32) (nu : Nat → Int32) (x : Nat) (hl6 : ln ≤ 60) (hx : x ≤ ln) (ht9 : ti < 14) (sz : Nat) : Met l yX3_follows wsX3_follows { frames := 4, cells := 0, slots := 0, locals := 85 } (zPc D (gT g) (zJk D g dg fs fv) [.ref k0, .ref (fs ti), .int (nI x)] [(k0, .inr (5, [.ref k1, .ref k2, .int (nI ln), .int (nI nc), .int cc9, .int (nI re), .int (nI en)])), (k2, .inl (g 0, 3, .inl nu))] [(k1, .inl (g 2, 60, .inl ch))] sz) (zQi D [(k0, .inr (5, [.ref k1, .ref k2, .int (nI ln), .int (nI nc), .int cc9, .int (nI re), .int (nI en)])), (k2, .inl (g 0, 3, .inl nu))] (fun (r : Int32) (_ : Unit) => r = (f_fo (zMk ch ln) ln (f_fl ti) (f_fb ti) x nu).1) (fun _ => [(k0, .inr (5, [.ref k1, .ref k2, .int (nI ln), .int (nI (f_fo (zMk ch ln) ln (f_fl ti) (f_fb ti) x nu).2.2.1), .int cc9, .int (nI (f_fo (zMk ch ln) ln (f_fl ti) (f_fb ti) x nu).2.1), .int (nI en)])), (k2, .inl (g 0, 3, .inl ((f_fo (zMk ch ln) ln (f_fl ti) (f_fb ti) x nu).2.2.2)))]) sz) 0 0 (va_A [(k0, .inr (5, [.ref k1, .ref k2, .int (nI ln), .int (nI nc), .int cc9, .int (nI re), .int (nI en)])), (k2, .inl (g 0, 3, .inl nu))] sz) := by
  refine z_met (y := yX3_follows) (cc := cX3_follows) (nL := 6) (rm := { frames := 4, cells := 0, slots := 0, locals := 85 }) (D := D) (tys := gT g) (wr := [(k1, .inl (g 2, 60, .inl ch))]) (P0 := zJk D g dg fs fv) (As := [.ref k0, .ref (fs ti), .int (nI x)]) (ww := [(k0, .inr (5, [.ref k1, .ref k2, .int (nI ln), .int (nI nc), .int cc9, .int (nI re), .int (nI en)])), (k2, .inl (g 0, 3, .inl nu))]) (Qc := zQi D [(k0, .inr (5, [.ref k1, .ref k2, .int (nI ln), .int (nI nc), .int cc9, .int (nI re), .int (nI en)])), (k2, .inl (g 0, 3, .inl nu))] (fun (r : Int32) (_ : Unit) => r = (f_fo (zMk ch ln) ln (f_fl ti) (f_fb ti) x nu).1) (fun _ => [(k0, .inr (5, [.ref k1, .ref k2, .int (nI ln), .int (nI (f_fo (zMk ch ln) ln (f_fl ti) (f_fb ti) x nu).2.2.1), .int cc9, .int (nI (f_fo (zMk ch ln) ln (f_fl ti) (f_fb ti) x nu).2.1), .int (nI en)])), (k2, .inl (g 0, 3, .inl ((f_fo (zMk ch ln) ln (f_fl ti) (f_fb ti) x nu).2.2.2)))])) (ret := (some .boolean)) (by decide) rfl (Nat.le_of_ble_eq_true rfl) ?_ sz
  intro p e s m args below meth c A Q hA hQ F E hr hlk hin
  have hn3 := f_fl_le ti
  have L12 : ∀ (N12_ : Nat) (i : Nat) (re9 : Nat) (nc9 : Nat) (nu9 : Nat → Int32) (hN12_ : f_fl ti - i < N12_) (hi : i ≤ f_fl ti) (hr9 : re9 ≤ ln) (hn : nc9 ≤ 3) (hv : (f_fo (zMk ch ln) ln (f_fl ti) (f_fb ti) x nu) = f_foF (zMk ch ln) ln (f_fb ti) (f_fl ti - i) i (re9, nc9, nu9)), zW p l e { frames := 4, cells := 0, slots := 0, locals := 85 } s m args below meth c 6 D A Q 0 0 [(k0, .inr (5, [.ref k1, .ref k2, .int (nI ln), .int (nI nc9), .int cc9, .int (nI re9), .int (nI en)])), (k2, .inl (g 0, 3, .inl nu9))] [(0, .ref k0), (1, .ref (fs ti)), (2, .int (nI x)), (3, .int (nI i))] [] 12 := by
    intro N12_
    induction N12_ with
    | zero =>
      intro i re9 nc9 nu9 hN12_
      exact absurd hN12_ (Nat.not_lt_zero _)
    | succ N12_ ih12 =>
      intro i re9 nc9 nu9 hN12_ hi hr9 hn hv
      refine z_iload_n F 3 dX3_follows_12 rfl rfl ?_
      refine z_aload_n F 1 dX3_follows_13 rfl rfl ?_
      refine z_calli0 F (z_runVK (st := [.int (nI i)]) F ((zJk_ok D g dg fs fv)) E (fun sz => k_J0_length_8abf5 l D g dg fs fv ti (by omega) sz) (cwV 0 F.1.2.2.2.2 gX3_follows_J0_length_8abf5 rfl rfl rfl (by decide +kernel) ⟨Nat.le_of_ble_eq_true rfl, Nat.le_of_ble_eq_true rfl⟩) (E.2 ti ht9).1 [] [] rfl rfl (by decide) rfl rfl (Nat.le_of_ble_eq_true rfl) dX3_follows_14 ⟨Nat.le_of_ble_eq_true rfl, Nat.le_of_ble_eq_true rfl⟩) (fun r2 _ hw1 => ?_)
      subst hw1
      refine z_icmp_ge (tgt := 122) F dX3_follows_17 (by decide) (fun c3 => ?_) (fun c3 => ?_)
      · have hi8 : i = f_fl ti := by have := z_ge (by omega) (by omega) c3; omega
        have hfin : (f_fo (zMk ch ln) ln (f_fl ti) (f_fb ti) x nu) = (1, (re9, nc9, nu9)) := by rw [hv, hi8, Nat.sub_self]; rfl
        refine z_iconst (v := 1) F dX3_follows_122 (by decide) ?_
        exact z_zret F hA hQ hlk hr (rfl) () (by rw [hfin]) (by rw [hfin]) dX3_follows_123
      · have hi8 : i < f_fl ti := z_lt (by omega) (by omega) c3
        refine z_aload_n F 1 dX3_follows_20 rfl rfl ?_
        refine z_iload_n F 3 dX3_follows_21 rfl rfl ?_
        refine z_calli0 F (z_runVK (st := []) F ((zJk_ok D g dg fs fv)) E (fun sz => k_J0_charAt_5068e l D g dg fs fv ti i (by omega) (hi8) sz) (cwV 1 F.1.2.2.2.2 gX3_follows_J0_charAt_5068e rfl rfl rfl (by decide +kernel) ⟨Nat.le_of_ble_eq_true rfl, Nat.le_of_ble_eq_true rfl⟩) (E.2 ti ht9).1 [] [] rfl rfl (by decide) rfl rfl (Nat.le_of_ble_eq_true rfl) dX3_follows_22 ⟨Nat.le_of_ble_eq_true rfl, Nat.le_of_ble_eq_true rfl⟩) (fun r5 _ hw4 => ?_)
        subst hw4
        obtain ⟨cv, hcv⟩ : ∃ z9 : Int32, z9 = f_ch (zBy (f_fb ti) i) := ⟨_, rfl⟩
        refine z_top hcv.symm ?_
        refine z_istore (lv' := [(4, .int cv), (0, .ref k0), (1, .ref (fs ti)), (2, .int (nI x)), (3, .int (nI i))]) F dX3_follows_25 (by decide) rfl ?_
        refine z_iload F 0 dX3_follows_27 rfl ?_
        refine z_bipush (v := 35) F dX3_follows_29 (by decide) ?_
        refine z_icmp_eq (tgt := 41) F dX3_follows_31 (by decide) (fun c6 => ?_) (fun c6 => ?_)
        · refine z_iconst (v := 1) F dX3_follows_41 (by decide) ?_
          refine z_goto (tgt := 46) F dX3_follows_42 (by decide) ?_
          refine z_istore (lv' := [(5, .int 1), (4, .int cv), (0, .ref k0), (1, .ref (fs ti)), (2, .int (nI x)), (3, .int (nI i))]) F dX3_follows_46 (by decide) rfl ?_
          refine z_iload F 0 dX3_follows_48 rfl ?_
          refine z_if_eq (tgt := 67) F dX3_follows_50 (by decide) (fun c7 => ?_) (fun c7 => ?_)
          · exact absurd c7 (by decide)
          · refine z_aload_n F 2 dX3_follows_53 rfl rfl ?_
            refine z_aload_n F 2 dX3_follows_54 rfl rfl ?_
            refine z_get (C := RX3) (T := TX3) (N := 7) F (fun w h => List.mem_cons_of_mem _ (List.mem_append_left _ (List.mem_append_left _ (List.mem_append_right _ (h))))) 0 rfl rfl 5 (by decide) (List.mem_cons_of_mem _ (List.mem_append_left _ (List.mem_append_left _ (List.mem_append_left _ (List.mem_append_left _ (List.mem_of_getElem? (i := 0) rfl)))))) rfl rfl dX3_follows_55 ?_
            refine z_calli0 F (z_runV (st := []) F zNo_ok trivial (fun sz => c_X3_hasDigitAt l D g k0 k1 k2 ln nc9 cc9 re9 en ch re9 (hl6) (by omega) sz) (cwV 1 F.1.2.2.2.2 gX3_follows_X3_hasDigitAt rfl rfl rfl (by decide +kernel) ⟨Nat.le_of_ble_eq_true rfl, Nat.le_of_ble_eq_true rfl⟩) 0 rfl rfl rfl [] [0, 2] rfl rfl (by decide) rfl rfl (Nat.le_of_ble_eq_true rfl) dX3_follows_58 ⟨Nat.le_of_ble_eq_true rfl, Nat.le_of_ble_eq_true rfl⟩) (fun r9 _ hw8 => ?_)
            subst hw8
            refine z_if_ne (tgt := 82) F dX3_follows_61 (by decide) (fun c10 => ?_) (fun c10 => ?_)
            · have hst : f_st (zMk ch ln) ln cv (re9, nc9, nu9) = (1, (f_rR (zMk ch ln) ln 0 re9, f_rC nc9, f_rU nc9 nu9 (f_rN (zMk ch ln) ln 0 re9))) := (if_pos c6).trans (if_neg c10)
              have hlt : re9 < ln := z_hd c10 (by omega) (by omega)
              have hle9 := f_rR_le (tx := (zMk ch ln)) (v := 0) hlt (by omega)
              have hnc9 := f_rC_le hn
              refine z_iload F 0 dX3_follows_82 rfl ?_
              refine z_if_eq (tgt := 106) F dX3_follows_84 (by decide) (fun c11 => ?_) (fun c11 => ?_)
              · exact absurd c11 (by decide)
              · refine z_aload_n F 2 dX3_follows_87 rfl rfl ?_
                refine z_iload F 1 dX3_follows_88 rfl ?_
                refine z_bipush (v := 64) F dX3_follows_90 (by decide) ?_
                refine z_icmp_ne (tgt := 99) F dX3_follows_92 (by decide) (fun c12 => ?_) (fun c12 => ?_)
                · refine z_iconst (v := 0) F dX3_follows_99 (by decide) ?_
                  refine z_callv (wn := []) (wf := fun _ => [(k0, .inr (5, [.ref k1, .ref k2, .int (nI ln), .int (nI (f_rC nc9)), .int cc9, .int (nI (f_rR (zMk ch ln) ln 0 re9)), .int (nI en)])), (k2, .inl (g 0, 3, .inl (f_rU nc9 nu9 (f_rN (zMk ch ln) ln 0 re9))))]) F (z_runV (st := []) F zNo_ok trivial (fun sz => c_X3_readNumber l D g k0 k1 k2 ln nc9 cc9 re9 en ch nu9 0 (hl6) (hlt) (hn) sz) (cwV 1 F.1.2.2.2.2 gX3_follows_X3_readNumber rfl rfl rfl (by decide +kernel) ⟨Nat.le_of_ble_eq_true rfl, Nat.le_of_ble_eq_true rfl⟩) 0 rfl rfl rfl [0, 1] [2] rfl rfl (by decide) rfl rfl (Nat.le_of_ble_eq_true rfl) dX3_follows_100 ⟨Nat.le_of_ble_eq_true rfl, Nat.le_of_ble_eq_true rfl⟩) [0, 1] [] [0, 1] rfl rfl (by decide) (by decide) (by decide) (fun _ => rfl) (fun _ hw13 => ?_)
                  clear hw13
                  refine z_goto (tgt := 116) F dX3_follows_103 (by decide) ?_
                  refine z_iinc (v := nI (i + 1)) (lv' := [(3, .int (nI (i + 1))), (5, .int 1), (4, .int cv), (0, .ref k0), (1, .ref (fs ti)), (2, .int (nI x))]) F dX3_follows_116 5 rfl (nI_1 i) (by decide) rfl ?_
                  refine z_goto (tgt := 12) F dX3_follows_119 (by decide) ?_
                  refine z_loc (lv' := [(0, .ref k0), (1, .ref (fs ti)), (2, .int (nI x)), (3, .int (nI (i + 1)))]) [3, 4, 5, 0] rfl ?_
                  exact ih12 (i + 1) (f_rR (zMk ch ln) ln 0 re9) (f_rC nc9) (f_rU nc9 nu9 (f_rN (zMk ch ln) ln 0 re9)) (by omega) (by omega) (by omega) (by omega) (by rw [hv, show f_fl ti - i = (f_fl ti - (i + 1)) + 1 by omega]; exact f_foF_go hcv hst (by decide))
                · exact absurd (c6.symm.trans c12) (by decide)
            · have hst : f_st (zMk ch ln) ln cv (re9, nc9, nu9) = (0, (re9, nc9, nu9)) := (if_pos c6).trans (if_pos c10)
              have hfin : (f_fo (zMk ch ln) ln (f_fl ti) (f_fb ti) x nu) = (0, (re9, nc9, nu9)) := by rw [hv, show f_fl ti - i = (f_fl ti - (i + 1)) + 1 by omega]; exact f_foF_no hcv hst
              refine z_goto (tgt := 80) F dX3_follows_64 (by decide) ?_
              refine z_iconst (v := 0) F dX3_follows_80 (by decide) ?_
              exact z_zret F hA hQ hlk hr (rfl) () (by rw [hfin]) (by rw [hfin]) dX3_follows_81
        · refine z_iload F 0 dX3_follows_34 rfl ?_
          refine z_bipush (v := 64) F dX3_follows_36 (by decide) ?_
          refine z_icmp_ne (tgt := 45) F dX3_follows_38 (by decide) (fun c14 => ?_) (fun c14 => ?_)
          · refine z_iconst (v := 0) F dX3_follows_45 (by decide) ?_
            refine z_istore (lv' := [(5, .int 0), (4, .int cv), (0, .ref k0), (1, .ref (fs ti)), (2, .int (nI x)), (3, .int (nI i))]) F dX3_follows_46 (by decide) rfl ?_
            refine z_iload F 0 dX3_follows_48 rfl ?_
            refine z_if_eq (tgt := 67) F dX3_follows_50 (by decide) (fun c15 => ?_) (fun c15 => ?_)
            · refine z_aload_n F 2 dX3_follows_67 rfl rfl ?_
              refine z_aload_n F 2 dX3_follows_68 rfl rfl ?_
              refine z_get (C := RX3) (T := TX3) (N := 7) F (fun w h => List.mem_cons_of_mem _ (List.mem_append_left _ (List.mem_append_left _ (List.mem_append_right _ (h))))) 0 rfl rfl 5 (by decide) (List.mem_cons_of_mem _ (List.mem_append_left _ (List.mem_append_left _ (List.mem_append_left _ (List.mem_append_left _ (List.mem_of_getElem? (i := 0) rfl)))))) rfl rfl dX3_follows_69 ?_
              refine z_iload F 1 dX3_follows_72 rfl ?_
              refine z_calli0 F (z_runV (st := []) F zNo_ok trivial (fun sz => c_X3_hasAt l D g k0 k1 k2 ln nc9 cc9 re9 en ch re9 cv (hl6) (by omega) sz) (cwV 2 F.1.2.2.2.2 gX3_follows_X3_hasAt rfl rfl rfl (by decide +kernel) ⟨Nat.le_of_ble_eq_true rfl, Nat.le_of_ble_eq_true rfl⟩) 0 rfl rfl rfl [] [0, 2] rfl rfl (by decide) rfl rfl (Nat.le_of_ble_eq_true rfl) dX3_follows_74 ⟨Nat.le_of_ble_eq_true rfl, Nat.le_of_ble_eq_true rfl⟩) (fun r17 _ hw16 => ?_)
              subst hw16
              refine z_if_ne (tgt := 82) F dX3_follows_77 (by decide) (fun c18 => ?_) (fun c18 => ?_)
              · have hst : f_st (zMk ch ln) ln cv (re9, nc9, nu9) = (1, (re9 + 1, nc9, nu9)) := ((if_neg c6).trans (if_neg c14)).trans (if_neg c18)
                have hlt : re9 < ln := z_hasAt c18 (by omega) (by omega)
                refine z_iload F 0 dX3_follows_82 rfl ?_
                refine z_if_eq (tgt := 106) F dX3_follows_84 (by decide) (fun c19 => ?_) (fun c19 => ?_)
                · refine z_aload_n F 2 dX3_follows_106 rfl rfl ?_
                  refine z_dup F dX3_follows_107 rfl ?_
                  refine z_get (C := RX3) (T := TX3) (N := 7) F (fun w h => List.mem_cons_of_mem _ (List.mem_append_left _ (List.mem_append_left _ (List.mem_append_right _ (h))))) 0 rfl rfl 5 (by decide) (List.mem_cons_of_mem _ (List.mem_append_left _ (List.mem_append_left _ (List.mem_append_left _ (List.mem_append_left _ (List.mem_of_getElem? (i := 0) rfl)))))) rfl rfl dX3_follows_108 ?_
                  refine z_iconst (v := 1) F dX3_follows_111 (by decide) ?_
                  refine z_iadd F dX3_follows_112 ?_
                  refine z_top (y := nI (re9 + 1)) (nI_1 re9) ?_
                  refine z_put (C := RX3) (T := TX3) (N := 7) (ty := .int) (ws' := [(k0, .inr (5, [.ref k1, .ref k2, .int (nI ln), .int (nI nc9), .int cc9, .int (nI (re9 + 1)), .int (nI en)])), (k2, .inl (g 0, 3, .inl nu9))]) F (fun w h => List.mem_cons_of_mem _ (List.mem_append_left _ (List.mem_append_left _ (List.mem_append_right _ (h))))) tyX3 tyX3_ok nmX3 0 rfl rfl 5 (by decide) (List.mem_cons_of_mem _ (List.mem_append_left _ (List.mem_append_left _ (List.mem_append_left _ (List.mem_append_left _ (List.mem_of_getElem? (i := 0) rfl)))))) rfl rfl (by decide +kernel) (rfl) (rfl) (Nat.le_of_ble_eq_true rfl) rfl dX3_follows_113 ?_
                  refine z_iinc (v := nI (i + 1)) (lv' := [(3, .int (nI (i + 1))), (5, .int 0), (4, .int cv), (0, .ref k0), (1, .ref (fs ti)), (2, .int (nI x))]) F dX3_follows_116 5 rfl (nI_1 i) (by decide) rfl ?_
                  refine z_goto (tgt := 12) F dX3_follows_119 (by decide) ?_
                  refine z_loc (lv' := [(0, .ref k0), (1, .ref (fs ti)), (2, .int (nI x)), (3, .int (nI (i + 1)))]) [3, 4, 5, 0] rfl ?_
                  exact ih12 (i + 1) (re9 + 1) nc9 nu9 (by omega) (by omega) (by omega) (by omega) (by rw [hv, show f_fl ti - i = (f_fl ti - (i + 1)) + 1 by omega]; exact f_foF_go hcv hst (by decide))
                · exact absurd (by decide) c19
              · have hst : f_st (zMk ch ln) ln cv (re9, nc9, nu9) = (0, (re9, nc9, nu9)) := ((if_neg c6).trans (if_neg c14)).trans (if_pos c18)
                have hfin : (f_fo (zMk ch ln) ln (f_fl ti) (f_fb ti) x nu) = (0, (re9, nc9, nu9)) := by rw [hv, show f_fl ti - i = (f_fl ti - (i + 1)) + 1 by omega]; exact f_foF_no hcv hst
                refine z_iconst (v := 0) F dX3_follows_80 (by decide) ?_
                exact z_zret F hA hQ hlk hr (rfl) () (by rw [hfin]) (by rw [hfin]) dX3_follows_81
            · exact absurd (by decide) c15
          · refine z_iconst (v := 1) F dX3_follows_41 (by decide) ?_
            refine z_goto (tgt := 46) F dX3_follows_42 (by decide) ?_
            refine z_istore (lv' := [(5, .int 1), (4, .int cv), (0, .ref k0), (1, .ref (fs ti)), (2, .int (nI x)), (3, .int (nI i))]) F dX3_follows_46 (by decide) rfl ?_
            refine z_iload F 0 dX3_follows_48 rfl ?_
            refine z_if_eq (tgt := 67) F dX3_follows_50 (by decide) (fun c20 => ?_) (fun c20 => ?_)
            · exact absurd c20 (by decide)
            · refine z_aload_n F 2 dX3_follows_53 rfl rfl ?_
              refine z_aload_n F 2 dX3_follows_54 rfl rfl ?_
              refine z_get (C := RX3) (T := TX3) (N := 7) F (fun w h => List.mem_cons_of_mem _ (List.mem_append_left _ (List.mem_append_left _ (List.mem_append_right _ (h))))) 0 rfl rfl 5 (by decide) (List.mem_cons_of_mem _ (List.mem_append_left _ (List.mem_append_left _ (List.mem_append_left _ (List.mem_append_left _ (List.mem_of_getElem? (i := 0) rfl)))))) rfl rfl dX3_follows_55 ?_
              refine z_calli0 F (z_runV (st := []) F zNo_ok trivial (fun sz => c_X3_hasDigitAt l D g k0 k1 k2 ln nc9 cc9 re9 en ch re9 (hl6) (by omega) sz) (cwV 1 F.1.2.2.2.2 gX3_follows_X3_hasDigitAt rfl rfl rfl (by decide +kernel) ⟨Nat.le_of_ble_eq_true rfl, Nat.le_of_ble_eq_true rfl⟩) 0 rfl rfl rfl [] [0, 2] rfl rfl (by decide) rfl rfl (Nat.le_of_ble_eq_true rfl) dX3_follows_58 ⟨Nat.le_of_ble_eq_true rfl, Nat.le_of_ble_eq_true rfl⟩) (fun r22 _ hw21 => ?_)
              subst hw21
              refine z_if_ne (tgt := 82) F dX3_follows_61 (by decide) (fun c23 => ?_) (fun c23 => ?_)
              · have hst : f_st (zMk ch ln) ln cv (re9, nc9, nu9) = (1, (f_rR (zMk ch ln) ln 1 re9, f_rC nc9, f_rU nc9 nu9 (f_rN (zMk ch ln) ln 1 re9))) := ((if_neg c6).trans (if_pos c14)).trans (if_neg c23)
                have hlt : re9 < ln := z_hd c23 (by omega) (by omega)
                have hle9 := f_rR_le (tx := (zMk ch ln)) (v := 1) hlt (by omega)
                have hnc9 := f_rC_le hn
                refine z_iload F 0 dX3_follows_82 rfl ?_
                refine z_if_eq (tgt := 106) F dX3_follows_84 (by decide) (fun c24 => ?_) (fun c24 => ?_)
                · exact absurd c24 (by decide)
                · refine z_aload_n F 2 dX3_follows_87 rfl rfl ?_
                  refine z_iload F 1 dX3_follows_88 rfl ?_
                  refine z_bipush (v := 64) F dX3_follows_90 (by decide) ?_
                  refine z_icmp_ne (tgt := 99) F dX3_follows_92 (by decide) (fun c25 => ?_) (fun c25 => ?_)
                  · exact absurd c14 c25
                  · refine z_iconst (v := 1) F dX3_follows_95 (by decide) ?_
                    refine z_goto (tgt := 100) F dX3_follows_96 (by decide) ?_
                    refine z_callv (wn := []) (wf := fun _ => [(k0, .inr (5, [.ref k1, .ref k2, .int (nI ln), .int (nI (f_rC nc9)), .int cc9, .int (nI (f_rR (zMk ch ln) ln 1 re9)), .int (nI en)])), (k2, .inl (g 0, 3, .inl (f_rU nc9 nu9 (f_rN (zMk ch ln) ln 1 re9))))]) F (z_runV (st := []) F zNo_ok trivial (fun sz => c_X3_readNumber l D g k0 k1 k2 ln nc9 cc9 re9 en ch nu9 1 (hl6) (hlt) (hn) sz) (cwV 1 F.1.2.2.2.2 gX3_follows_X3_readNumber rfl rfl rfl (by decide +kernel) ⟨Nat.le_of_ble_eq_true rfl, Nat.le_of_ble_eq_true rfl⟩) 0 rfl rfl rfl [0, 1] [2] rfl rfl (by decide) rfl rfl (Nat.le_of_ble_eq_true rfl) dX3_follows_100 ⟨Nat.le_of_ble_eq_true rfl, Nat.le_of_ble_eq_true rfl⟩) [0, 1] [] [0, 1] rfl rfl (by decide) (by decide) (by decide) (fun _ => rfl) (fun _ hw26 => ?_)
                    clear hw26
                    refine z_goto (tgt := 116) F dX3_follows_103 (by decide) ?_
                    refine z_iinc (v := nI (i + 1)) (lv' := [(3, .int (nI (i + 1))), (5, .int 1), (4, .int cv), (0, .ref k0), (1, .ref (fs ti)), (2, .int (nI x))]) F dX3_follows_116 5 rfl (nI_1 i) (by decide) rfl ?_
                    refine z_goto (tgt := 12) F dX3_follows_119 (by decide) ?_
                    refine z_loc (lv' := [(0, .ref k0), (1, .ref (fs ti)), (2, .int (nI x)), (3, .int (nI (i + 1)))]) [3, 4, 5, 0] rfl ?_
                    exact ih12 (i + 1) (f_rR (zMk ch ln) ln 1 re9) (f_rC nc9) (f_rU nc9 nu9 (f_rN (zMk ch ln) ln 1 re9)) (by omega) (by omega) (by omega) (by omega) (by rw [hv, show f_fl ti - i = (f_fl ti - (i + 1)) + 1 by omega]; exact f_foF_go hcv hst (by decide))
              · have hst : f_st (zMk ch ln) ln cv (re9, nc9, nu9) = (0, (re9, nc9, nu9)) := ((if_neg c6).trans (if_pos c14)).trans (if_pos c23)
                have hfin : (f_fo (zMk ch ln) ln (f_fl ti) (f_fb ti) x nu) = (0, (re9, nc9, nu9)) := by rw [hv, show f_fl ti - i = (f_fl ti - (i + 1)) + 1 by omega]; exact f_foF_no hcv hst
                refine z_goto (tgt := 80) F dX3_follows_64 (by decide) ?_
                refine z_iconst (v := 0) F dX3_follows_80 (by decide) ?_
                exact z_zret F hA hQ hlk hr (rfl) () (by rw [hfin]) (by rw [hfin]) dX3_follows_81
  show zW p l e { frames := 4, cells := 0, slots := 0, locals := 85 } s m args below meth c 6 D A Q 0 0 [(k0, .inr (5, [.ref k1, .ref k2, .int (nI ln), .int (nI nc), .int cc9, .int (nI re), .int (nI en)])), (k2, .inl (g 0, 3, .inl nu))] [(0, .ref k0), (1, .ref (fs ti)), (2, .int (nI x))] [] 0
  refine z_aload_n F 0 dX3_follows_0 rfl rfl ?_
  refine z_iload_n F 2 dX3_follows_1 rfl rfl ?_
  refine z_put (C := RX3) (T := TX3) (N := 7) (ty := .int) (ws' := [(k0, .inr (5, [.ref k1, .ref k2, .int (nI ln), .int (nI nc), .int cc9, .int (nI x), .int (nI en)])), (k2, .inl (g 0, 3, .inl nu))]) F (fun w h => List.mem_cons_of_mem _ (List.mem_append_left _ (List.mem_append_left _ (List.mem_append_right _ (h))))) tyX3 tyX3_ok nmX3 0 rfl rfl 5 (by decide) (List.mem_cons_of_mem _ (List.mem_append_left _ (List.mem_append_left _ (List.mem_append_left _ (List.mem_append_left _ (List.mem_of_getElem? (i := 0) rfl)))))) rfl rfl (by decide +kernel) (rfl) (rfl) (Nat.le_of_ble_eq_true rfl) rfl dX3_follows_2 ?_
  refine z_aload_n F 0 dX3_follows_5 rfl rfl ?_
  refine z_iconst (v := 0) F dX3_follows_6 (by decide) ?_
  refine z_put (C := RX3) (T := TX3) (N := 7) (ty := .int) (ws' := [(k0, .inr (5, [.ref k1, .ref k2, .int (nI ln), .int 0, .int cc9, .int (nI x), .int (nI en)])), (k2, .inl (g 0, 3, .inl nu))]) F (fun w h => List.mem_cons_of_mem _ (List.mem_append_left _ (List.mem_append_left _ (List.mem_append_right _ (h))))) tyX3 tyX3_ok nmX3 0 rfl rfl 3 (by decide) (List.mem_cons_of_mem _ (List.mem_append_left _ (List.mem_append_left _ (List.mem_append_left _ (List.mem_append_left _ (List.mem_of_getElem? (i := 1) rfl)))))) rfl rfl (by decide +kernel) (rfl) (rfl) (Nat.le_of_ble_eq_true rfl) rfl dX3_follows_7 ?_
  refine z_iconst (v := 0) F dX3_follows_10 (by decide) ?_
  refine z_istore_n (lv' := [(3, .int 0), (0, .ref k0), (1, .ref (fs ti)), (2, .int (nI x))]) F dX3_follows_11 rfl (by decide) rfl ?_
  refine z_loc (lv' := [(0, .ref k0), (1, .ref (fs ti)), (2, .int (nI x)), (3, .int (nI 0))]) [1, 2, 3, 0] rfl ?_
  exact L12 _ 0 x 0 nu (Nat.lt_succ_self _) (by omega) (by omega) (by omega) rfl
