/-! THE FIRST ERROR -/
abbrev zF6 : Type := Int32 × Int32 × Nat × zR3
def f_feF (tx : Nat → Int32) (ln : Nat) : Nat → Nat → Nat → Int32 → Nat → zR3 → zF6
  | 0, _, _, c, en, s => (nI ln, c, en, s)
  | k + 1, x, n, c, _, s => if (f_cm tx ln x s).1 = none then (nI (f_cm tx ln x s).2.1, c, (f_cm tx ln x s).2) else if (f_cm tx ln x s).2.1 = ln then (-1, nI n, (f_cm tx ln x s).2) else if f_hasAt tx ln (f_cm tx ln x s).2.1 59 = 0 then (nI (f_cm tx ln x s).2.1, nI n, (f_cm tx ln x s).2) else f_feF tx ln k ((f_cm tx ln x s).2.1 + 1) (n + 1) (nI n) (f_cm tx ln x s).2.1 (f_cm tx ln x s).2.2
def f_fe (tx : Nat → Int32) (ln en : Nat) (s : zR3) : zF6 := f_feF tx ln 60 0 1 0 en s
set_option maxHeartbeats 4000000 in
set_option maxRecDepth 100000 in
theorem c_X3_findError (l : Launch) (D : va_G) (g : Nat → ClassId) (er : Nat → Nat) (dg : Nat → Nat) (ec : Nat → Nat) (fs : Nat → Nat) (fv : Nat → Nat) (qa : Nat) (k0 : Nat) (k1 : Nat) (k2 : Nat) (ln : Nat) (nc : Nat) (cc9 : Int32) (re : Nat) (en : Nat) (ch : Nat → Int32) (nu : Nat → Int32) (hl6 : ln ≤ 60) (hnc : nc ≤ 3) (sz : Nat) : Met l yX3_findError wsX3_findError { frames := 6, cells := 0, slots := 0, locals := 133 } (zPc D (gT g) (zEnv3 er D g dg ec fs fv qa) [.ref k0] [(k0, .inr (5, [.ref k1, .ref k2, .int (nI ln), .int (nI nc), .int cc9, .int (nI re), .int (nI en)])), (k2, .inl (g 0, 3, .inl nu))] [(k1, .inl (g 2, 60, .inl ch))] sz) (zQi D [(k0, .inr (5, [.ref k1, .ref k2, .int (nI ln), .int (nI nc), .int cc9, .int (nI re), .int (nI en)])), (k2, .inl (g 0, 3, .inl nu))] (fun (r : Int32) (_ : Unit) => r = (f_fe (zMk ch ln) ln en (re, nc, nu)).1) (fun _ => [(k0, .inr (5, [.ref k1, .ref k2, .int (nI ln), .int (nI (f_fe (zMk ch ln) ln en (re, nc, nu)).2.2.2.2.1), .int ((f_fe (zMk ch ln) ln en (re, nc, nu)).2.1), .int (nI (f_fe (zMk ch ln) ln en (re, nc, nu)).2.2.2.1), .int (nI (f_fe (zMk ch ln) ln en (re, nc, nu)).2.2.1)])), (k2, .inl (g 0, 3, .inl ((f_fe (zMk ch ln) ln en (re, nc, nu)).2.2.2.2.2)))]) sz) 0 0 (va_A [(k0, .inr (5, [.ref k1, .ref k2, .int (nI ln), .int (nI nc), .int cc9, .int (nI re), .int (nI en)])), (k2, .inl (g 0, 3, .inl nu))] sz) := by
  refine z_met (y := yX3_findError) (cc := cX3_findError) (nL := 3) (rm := { frames := 6, cells := 0, slots := 0, locals := 133 }) (D := D) (tys := gT g) (wr := [(k1, .inl (g 2, 60, .inl ch))]) (P0 := zEnv3 er D g dg ec fs fv qa) (As := [.ref k0]) (ww := [(k0, .inr (5, [.ref k1, .ref k2, .int (nI ln), .int (nI nc), .int cc9, .int (nI re), .int (nI en)])), (k2, .inl (g 0, 3, .inl nu))]) (Qc := zQi D [(k0, .inr (5, [.ref k1, .ref k2, .int (nI ln), .int (nI nc), .int cc9, .int (nI re), .int (nI en)])), (k2, .inl (g 0, 3, .inl nu))] (fun (r : Int32) (_ : Unit) => r = (f_fe (zMk ch ln) ln en (re, nc, nu)).1) (fun _ => [(k0, .inr (5, [.ref k1, .ref k2, .int (nI ln), .int (nI (f_fe (zMk ch ln) ln en (re, nc, nu)).2.2.2.2.1), .int ((f_fe (zMk ch ln) ln en (re, nc, nu)).2.1), .int (nI (f_fe (zMk ch ln) ln en (re, nc, nu)).2.2.2.1), .int (nI (f_fe (zMk ch ln) ln en (re, nc, nu)).2.2.1)])), (k2, .inl (g 0, 3, .inl ((f_fe (zMk ch ln) ln en (re, nc, nu)).2.2.2.2.2)))])) (ret := (some .int)) (by decide) rfl (Nat.le_of_ble_eq_true rfl) ?_ sz
  intro p e s m args below meth c A Q hA hQ F E hr hlk hin
  have L9 : ∀ (N9_ : Nat) (n : Nat) (x : Nat) (cc1 : Int32) (en1 : Nat) (re1 : Nat) (nc1 : Nat) (nu1 : Nat → Int32) (hN9_ : 61 - n < N9_) (hn : 1 ≤ n ∧ n ≤ 61) (hx : x ≤ ln) (hn3 : nc1 ≤ 3) (hv : (f_fe (zMk ch ln) ln en (re, nc, nu)) = f_feF (zMk ch ln) ln (61 - n) x n cc1 en1 (re1, nc1, nu1)), zW p l e { frames := 6, cells := 0, slots := 0, locals := 133 } s m args below meth c 3 D A Q 0 0 [(k0, .inr (5, [.ref k1, .ref k2, .int (nI ln), .int (nI nc1), .int cc1, .int (nI re1), .int (nI en1)])), (k2, .inl (g 0, 3, .inl nu1))] [(0, .ref k0), (1, .int (nI x)), (2, .int (nI n))] [] 9 := by
    intro N9_
    induction N9_ with
    | zero =>
      intro n x cc1 en1 re1 nc1 nu1 hN9_
      exact absurd hN9_ (Nat.not_lt_zero _)
    | succ N9_ ih9 =>
      intro n x cc1 en1 re1 nc1 nu1 hN9_ hn hx hn3 hv
      refine z_iload_n F 2 dX3_findError_9 rfl rfl ?_
      refine z_bipush (v := 60) F dX3_findError_10 (by decide) ?_
      refine z_icmp_gt (tgt := 77) F dX3_findError_12 (by decide) (fun c1 => ?_) (fun c1 => ?_)
      · have hn61 : n = 61 := by have := (nI_ltI (by decide : 60 < 2 ^ 31) (by omega)).mp (show nI 60 < nI n from c1); omega
        have hfin : (f_fe (zMk ch ln) ln en (re, nc, nu)) = (nI ln, cc1, en1, (re1, nc1, nu1)) := by rw [hv, hn61, Nat.sub_self]; rfl
        refine z_aload_n F 0 dX3_findError_77 rfl rfl ?_
        refine z_get (C := RX3) (T := TX3) (N := 7) F (fun w h => List.mem_cons_of_mem _ (List.mem_append_left _ (List.mem_append_left _ (List.mem_append_right _ (h))))) 0 rfl rfl 2 (by decide) (List.mem_cons_of_mem _ (List.mem_append_left _ (List.mem_append_left _ (List.mem_append_left _ (List.mem_append_left _ (List.mem_of_getElem? (i := 2) rfl)))))) rfl rfl dX3_findError_78 ?_
        exact z_iret F hA hQ hlk hr () (by rw [hfin]) (by rw [hfin]) dX3_findError_81
      · have hn60 : n ≤ 60 := (Nat.lt_or_ge 60 n).elim (fun q => absurd (nI_lt q (by omega)) c1) id
        refine z_aload_n F 0 dX3_findError_15 rfl rfl ?_
        refine z_iload_n F 1 dX3_findError_16 rfl rfl ?_
        refine z_calle (wn := []) (wf := fun _ => [(k0, .inr (5, [.ref k1, .ref k2, .int (nI ln), .int (nI (f_cm (zMk ch ln) ln x (re1, nc1, nu1)).2.2.2.1), .int cc1, .int (nI (f_cm (zMk ch ln) ln x (re1, nc1, nu1)).2.2.1), .int (nI (f_cm (zMk ch ln) ln x (re1, nc1, nu1)).2.1)])), (k2, .inl (g 0, 3, .inl ((f_cm (zMk ch ln) ln x (re1, nc1, nu1)).2.2.2.2)))]) F (z_runV (st := []) F ((zEnv3_ok er D g dg ec fs fv qa)) E (fun sz => c_X3_commandAt l D g er dg ec fs fv qa k0 k1 k2 ln nc1 cc1 re1 en1 ch nu1 x (hl6) (hx) sz) (cwV 1 F.1.2.2.2.2 gX3_findError_X3_commandAt rfl rfl rfl (by decide +kernel) ⟨Nat.le_of_ble_eq_true rfl, Nat.le_of_ble_eq_true rfl⟩) 0 rfl rfl rfl [0, 1] [2] rfl rfl (by decide) rfl rfl (Nat.le_of_ble_eq_true rfl) dX3_findError_17 ⟨Nat.le_of_ble_eq_true rfl, Nat.le_of_ble_eq_true rfl⟩) [0, 1] [] [0, 1] rfl rfl (by decide) (by decide) (by decide) (fun _ => rfl) (fun r3 _ hw2 => ?_)
        subst hw2
        have hE : (f_cm (zMk ch ln) ln x (re1, nc1, nu1)).2.1 ≤ ln ∧ (f_cm (zMk ch ln) ln x (re1, nc1, nu1)).2.2.2.1 ≤ 3 := f_cmF_le hl6 hx 8 0 x (re1, nc1, nu1) hx hn3
        have hE1 := hE.1
        cases hcm20 : (f_cm (zMk ch ln) ln x (re1, nc1, nu1)).1 with
        | none =>
          refine z_st (st' := [.null]) rfl ?_
          refine z_ifnnN F dX3_findError_20 ?_
          have hfin : (f_fe (zMk ch ln) ln en (re, nc, nu)) = (nI (f_cm (zMk ch ln) ln x (re1, nc1, nu1)).2.1, cc1, (f_cm (zMk ch ln) ln x (re1, nc1, nu1)).2) := by rw [hv, show 61 - n = (61 - (n + 1)) + 1 by omega]; exact if_pos hcm20
          refine z_aload_n F 0 dX3_findError_23 rfl rfl ?_
          refine z_get (C := RX3) (T := TX3) (N := 7) F (fun w h => List.mem_cons_of_mem _ (List.mem_append_left _ (List.mem_append_left _ (List.mem_append_right _ (h))))) 0 rfl rfl 6 (by decide) (List.mem_cons_of_mem _ (List.mem_append_left _ (List.mem_append_left _ (List.mem_append_left _ (List.mem_append_left _ (List.mem_of_getElem? (i := 1) rfl)))))) rfl rfl dX3_findError_24 ?_
          exact z_iret F hA hQ hlk hr () (by rw [hfin]) (by rw [hfin]) dX3_findError_27
        | some i9 =>
          refine z_st (st' := [.ref (ec i9)]) rfl ?_
          refine z_ifnn (tgt := 28) F dX3_findError_20 (by decide) ?_
          have hcmN : ¬ (f_cm (zMk ch ln) ln x (re1, nc1, nu1)).1 = none := by rw [hcm20]; exact fun q => nomatch q
          refine z_aload_n F 0 dX3_findError_28 rfl rfl ?_
          refine z_iload_n F 2 dX3_findError_29 rfl rfl ?_
          refine z_put (C := RX3) (T := TX3) (N := 7) (ty := .int) (ws' := [(k0, .inr (5, [.ref k1, .ref k2, .int (nI ln), .int (nI (f_cm (zMk ch ln) ln x (re1, nc1, nu1)).2.2.2.1), .int (nI n), .int (nI (f_cm (zMk ch ln) ln x (re1, nc1, nu1)).2.2.1), .int (nI (f_cm (zMk ch ln) ln x (re1, nc1, nu1)).2.1)])), (k2, .inl (g 0, 3, .inl ((f_cm (zMk ch ln) ln x (re1, nc1, nu1)).2.2.2.2)))]) F (fun w h => List.mem_cons_of_mem _ (List.mem_append_left _ (List.mem_append_left _ (List.mem_append_right _ (h))))) tyX3 tyX3_ok nmX3 0 rfl rfl 4 (by decide) (List.mem_cons_of_mem _ (List.mem_append_left _ (List.mem_append_left _ (List.mem_append_left _ (List.mem_append_left _ (List.mem_of_getElem? (i := 0) rfl)))))) rfl rfl (by decide +kernel) (rfl) (rfl) (Nat.le_of_ble_eq_true rfl) rfl dX3_findError_30 ?_
          refine z_aload_n F 0 dX3_findError_33 rfl rfl ?_
          refine z_get (C := RX3) (T := TX3) (N := 7) F (fun w h => List.mem_cons_of_mem _ (List.mem_append_left _ (List.mem_append_left _ (List.mem_append_right _ (h))))) 0 rfl rfl 6 (by decide) (List.mem_cons_of_mem _ (List.mem_append_left _ (List.mem_append_left _ (List.mem_append_left _ (List.mem_append_left _ (List.mem_of_getElem? (i := 1) rfl)))))) rfl rfl dX3_findError_34 ?_
          refine z_aload_n F 0 dX3_findError_37 rfl rfl ?_
          refine z_get (C := RX3) (T := TX3) (N := 7) F (fun w h => List.mem_cons_of_mem _ (List.mem_append_left _ (List.mem_append_left _ (List.mem_append_right _ (h))))) 0 rfl rfl 2 (by decide) (List.mem_cons_of_mem _ (List.mem_append_left _ (List.mem_append_left _ (List.mem_append_left _ (List.mem_append_left _ (List.mem_of_getElem? (i := 2) rfl)))))) rfl rfl dX3_findError_38 ?_
          refine z_icmp_ne (tgt := 46) F dX3_findError_41 (by decide) (fun c4 => ?_) (fun c4 => ?_)
          · have hEl : ¬ (f_cm (zMk ch ln) ln x (re1, nc1, nu1)).2.1 = ln := fun q => c4 (by rw [q])
            refine z_aload_n F 0 dX3_findError_46 rfl rfl ?_
            refine z_aload_n F 0 dX3_findError_47 rfl rfl ?_
            refine z_get (C := RX3) (T := TX3) (N := 7) F (fun w h => List.mem_cons_of_mem _ (List.mem_append_left _ (List.mem_append_left _ (List.mem_append_right _ (h))))) 0 rfl rfl 6 (by decide) (List.mem_cons_of_mem _ (List.mem_append_left _ (List.mem_append_left _ (List.mem_append_left _ (List.mem_append_left _ (List.mem_of_getElem? (i := 1) rfl)))))) rfl rfl dX3_findError_48 ?_
            refine z_bipush (v := 59) F dX3_findError_51 (by decide) ?_
            refine z_calli0 F (z_runV (st := []) F zNo_ok trivial (fun sz => c_X3_hasAt l D g k0 k1 k2 ln ((f_cm (zMk ch ln) ln x (re1, nc1, nu1)).2.2.2.1) (nI n) ((f_cm (zMk ch ln) ln x (re1, nc1, nu1)).2.2.1) ((f_cm (zMk ch ln) ln x (re1, nc1, nu1)).2.1) ch ((f_cm (zMk ch ln) ln x (re1, nc1, nu1)).2.1) 59 (hl6) (by omega) sz) (cwV 2 F.1.2.2.2.2 gX3_findError_X3_hasAt rfl rfl rfl (by decide +kernel) ⟨Nat.le_of_ble_eq_true rfl, Nat.le_of_ble_eq_true rfl⟩) 0 rfl rfl rfl [] [0, 2] rfl rfl (by decide) rfl rfl (Nat.le_of_ble_eq_true rfl) dX3_findError_53 ⟨Nat.le_of_ble_eq_true rfl, Nat.le_of_ble_eq_true rfl⟩) (fun r6 _ hw5 => ?_)
            subst hw5
            refine z_if_ne (tgt := 64) F dX3_findError_56 (by decide) (fun c7 => ?_) (fun c7 => ?_)
            · have hHa := c7
              have hElt : (f_cm (zMk ch ln) ln x (re1, nc1, nu1)).2.1 < ln := z_hasAt hHa (by omega) (by omega)
              refine z_aload_n F 0 dX3_findError_64 rfl rfl ?_
              refine z_get (C := RX3) (T := TX3) (N := 7) F (fun w h => List.mem_cons_of_mem _ (List.mem_append_left _ (List.mem_append_left _ (List.mem_append_right _ (h))))) 0 rfl rfl 6 (by decide) (List.mem_cons_of_mem _ (List.mem_append_left _ (List.mem_append_left _ (List.mem_append_left _ (List.mem_append_left _ (List.mem_of_getElem? (i := 1) rfl)))))) rfl rfl dX3_findError_65 ?_
              refine z_iconst (v := 1) F dX3_findError_68 (by decide) ?_
              refine z_iadd F dX3_findError_69 ?_
              refine z_top (y := nI ((f_cm (zMk ch ln) ln x (re1, nc1, nu1)).2.1 + 1)) (nI_1 _) ?_
              refine z_istore_n (lv' := [(1, .int (nI ((f_cm (zMk ch ln) ln x (re1, nc1, nu1)).2.1 + 1))), (0, .ref k0), (2, .int (nI n))]) F dX3_findError_70 rfl (by decide) rfl ?_
              refine z_iinc (v := nI (n + 1)) (lv' := [(2, .int (nI (n + 1))), (1, .int (nI ((f_cm (zMk ch ln) ln x (re1, nc1, nu1)).2.1 + 1))), (0, .ref k0)]) F dX3_findError_71 2 rfl (nI_1 n) (by decide) rfl ?_
              refine z_goto (tgt := 9) F dX3_findError_74 (by decide) ?_
              refine z_loc (lv' := [(0, .ref k0), (1, .int (nI ((f_cm (zMk ch ln) ln x (re1, nc1, nu1)).2.1 + 1))), (2, .int (nI (n + 1)))]) [2, 1, 0] rfl ?_
              exact ih9 (n + 1) ((f_cm (zMk ch ln) ln x (re1, nc1, nu1)).2.1 + 1) (nI n) ((f_cm (zMk ch ln) ln x (re1, nc1, nu1)).2.1) ((f_cm (zMk ch ln) ln x (re1, nc1, nu1)).2.2.1) ((f_cm (zMk ch ln) ln x (re1, nc1, nu1)).2.2.2.1) ((f_cm (zMk ch ln) ln x (re1, nc1, nu1)).2.2.2.2) (by omega) (by omega) (by omega) hE.2 (by rw [hv, show 61 - n = (61 - (n + 1)) + 1 by omega]; exact (if_neg hcmN).trans ((if_neg hEl).trans (if_neg hHa)))
            · have hfin : (f_fe (zMk ch ln) ln en (re, nc, nu)) = (nI (f_cm (zMk ch ln) ln x (re1, nc1, nu1)).2.1, nI n, (f_cm (zMk ch ln) ln x (re1, nc1, nu1)).2) := by rw [hv, show 61 - n = (61 - (n + 1)) + 1 by omega]; exact (if_neg hcmN).trans ((if_neg hEl).trans (if_pos c7))
              refine z_aload_n F 0 dX3_findError_59 rfl rfl ?_
              refine z_get (C := RX3) (T := TX3) (N := 7) F (fun w h => List.mem_cons_of_mem _ (List.mem_append_left _ (List.mem_append_left _ (List.mem_append_right _ (h))))) 0 rfl rfl 6 (by decide) (List.mem_cons_of_mem _ (List.mem_append_left _ (List.mem_append_left _ (List.mem_append_left _ (List.mem_append_left _ (List.mem_of_getElem? (i := 1) rfl)))))) rfl rfl dX3_findError_60 ?_
              exact z_iret F hA hQ hlk hr () (by rw [hfin]) (by rw [hfin]) dX3_findError_63
          · have hEl : (f_cm (zMk ch ln) ln x (re1, nc1, nu1)).2.1 = ln := (nI_eq (by omega) (by omega)).mp c4
            have hfin : (f_fe (zMk ch ln) ln en (re, nc, nu)) = (-1, nI n, (f_cm (zMk ch ln) ln x (re1, nc1, nu1)).2) := by rw [hv, show 61 - n = (61 - (n + 1)) + 1 by omega]; exact (if_neg hcmN).trans (if_pos hEl)
            refine z_iconst (v := (-1)) F dX3_findError_44 (by decide) ?_
            exact z_iret F hA hQ hlk hr () (by rw [hfin]) (by rw [hfin]) dX3_findError_45
  show zW p l e { frames := 6, cells := 0, slots := 0, locals := 133 } s m args below meth c 3 D A Q 0 0 [(k0, .inr (5, [.ref k1, .ref k2, .int (nI ln), .int (nI nc), .int cc9, .int (nI re), .int (nI en)])), (k2, .inl (g 0, 3, .inl nu))] [(0, .ref k0)] [] 0
  refine z_aload_n F 0 dX3_findError_0 rfl rfl ?_
  refine z_iconst (v := 0) F dX3_findError_1 (by decide) ?_
  refine z_put (C := RX3) (T := TX3) (N := 7) (ty := .int) (ws' := [(k0, .inr (5, [.ref k1, .ref k2, .int (nI ln), .int (nI nc), .int 0, .int (nI re), .int (nI en)])), (k2, .inl (g 0, 3, .inl nu))]) F (fun w h => List.mem_cons_of_mem _ (List.mem_append_left _ (List.mem_append_left _ (List.mem_append_right _ (h))))) tyX3 tyX3_ok nmX3 0 rfl rfl 4 (by decide) (List.mem_cons_of_mem _ (List.mem_append_left _ (List.mem_append_left _ (List.mem_append_left _ (List.mem_append_left _ (List.mem_of_getElem? (i := 0) rfl)))))) rfl rfl (by decide +kernel) (rfl) (rfl) (Nat.le_of_ble_eq_true rfl) rfl dX3_findError_2 ?_
  refine z_iconst (v := 0) F dX3_findError_5 (by decide) ?_
  refine z_istore_n (lv' := [(1, .int 0), (0, .ref k0)]) F dX3_findError_6 rfl (by decide) rfl ?_
  refine z_iconst (v := 1) F dX3_findError_7 (by decide) ?_
  refine z_istore_n (lv' := [(2, .int 1), (1, .int 0), (0, .ref k0)]) F dX3_findError_8 rfl (by decide) rfl ?_
  refine z_loc (lv' := [(0, .ref k0), (1, .int (nI 0)), (2, .int (nI 1))]) [2, 1, 0] rfl ?_
  exact L9 _ 1 0 0 en re nc nu (Nat.lt_succ_self _) (by omega) (by omega) hnc rfl
