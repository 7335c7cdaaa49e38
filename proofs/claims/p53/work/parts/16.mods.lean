/-! CLEARING -/
def f_fdN (op : Nat → Int32) : Nat → Nat × Nat | 0 => (0, 0) | k + 1 => (if op (f_fdN op k).1 ≤ op (k + 1) then (f_fdN op k).1 else k + 1, if op (k + 1) ≤ op (f_fdN op k).2 then (f_fdN op k).2 else k + 1)
def f_fdD (op : Nat → Int32) : Nat := (f_fdN op 7).1
def f_fdC (op : Nat → Int32) : Nat := (f_fdN op 7).2
def f_fdA (op : Nat → Int32) : Int32 := z_min (-(op (f_fdD op))) (op (f_fdC op))
def f_fdO (op : Nat → Int32) : Nat → Int32 := upd (upd op (f_fdD op) (op (f_fdD op) + f_fdA op)) (f_fdC op) ((upd op (f_fdD op) (op (f_fdD op) + f_fdA op)) (f_fdC op) - f_fdA op)
def f_fdR (op : Nat → Int32) : Int32 := if f_fdA op ≤ 0 then 0 else 1
theorem f_fdN_lt (op : Nat → Int32) : ∀ k, k ≤ 7 → (f_fdN op k).1 < 8 ∧ (f_fdN op k).2 < 8 := by
  intro k
  induction k with
  | zero => intro _; exact ⟨(by decide : 0 < 8), (by decide : 0 < 8)⟩
  | succ k ih =>
    intro hk
    obtain ⟨h1, h2⟩ := ih (by omega)
    unfold f_fdN
    dsimp only
    constructor <;> split <;> omega
theorem f_fdD_lt (op : Nat → Int32) : f_fdD op < 8 := (f_fdN_lt op 7 (Nat.le_refl _)).1
theorem f_fdC_lt (op : Nat → Int32) : f_fdC op < 8 := (f_fdN_lt op 7 (Nat.le_refl _)).2
theorem z_fdR {op : Nat → Int32} (h : f_fdR op = 0) : f_fdA op ≤ 0 := by
  unfold f_fdR at h
  split at h
  · assumption
  · exact absurd h (by decide)
theorem z_fdRn {op : Nat → Int32} (h : ¬ f_fdR op = 0) : ¬ f_fdA op ≤ 0 := fun q => h (by unfold f_fdR; rw [if_pos q])
def f_faN (am ac : Nat → Int32) : Nat → (Nat → Int32) × (Nat → Int32) | 0 => (am, ac) | i + 1 => f_fgN (f_faN am ac i).1 (f_faN am ac i).2 i 8
def f_clF : Nat → (Nat → Int32) → (Nat → Int32) → (Nat → Int32) → Nat → (Nat → Int32) × (Nat → Int32) × Nat | 0, am, ac, _, i => (am, ac, i) | k + 1, am, ac, op, i => if f_fdA op ≤ 0 then (am, ac, i) else f_clF k (f_chA am (f_fdD op) (f_fdC op) (f_fdA op)) (f_chC ac (f_fdD op) (f_fdC op) (f_fdA op)) (f_fdO op) (i + 1)
def f_cl (am ac : Nat → Int32) : (Nat → Int32) × (Nat → Int32) × Nat := f_clF 8 (f_faN am ac 8).1 (f_faN am ac 8).2 (fun k => f_pos am k) 0
set_option maxHeartbeats 4000000 in
set_option maxRecDepth 100000 in
theorem c_X1_findDebt (l : Launch) (D : va_G) (g : Nat → ClassId) (k0 : Nat) (k1 : Nat) (op : Nat → Int32) (v1 : Int32) (v2 : Int32) (v3 : Int32) (sz : Nat) : Met l yX1_findDebt wsX1_findDebt { frames := 1, cells := 0, slots := 0, locals := 14 } (zPc D (gT g) zNo [.ref k0] [(k0, .inr (4, [.ref k1, .int v1, .int v2, .int v3])), (k1, .inl (g 0, 8, .inl op))] [] sz) (zQi D [(k0, .inr (4, [.ref k1, .int v1, .int v2, .int v3])), (k1, .inl (g 0, 8, .inl op))] (fun (r : Int32) (_ : Unit) => r = f_fdR op) (fun _ => [(k0, .inr (4, [.ref k1, .int (nI (f_fdD op)), .int (nI (f_fdC op)), .int (f_fdA op)])), (k1, .inl (g 0, 8, .inl (f_fdO op)))]) sz) 0 0 (va_A [(k0, .inr (4, [.ref k1, .int v1, .int v2, .int v3])), (k1, .inl (g 0, 8, .inl op))] sz) := by
  refine z_met (y := yX1_findDebt) (cc := cX1_findDebt) (nL := 2) (rm := { frames := 1, cells := 0, slots := 0, locals := 14 }) (D := D) (tys := gT g) (wr := []) (P0 := zNo) (As := [.ref k0]) (ww := [(k0, .inr (4, [.ref k1, .int v1, .int v2, .int v3])), (k1, .inl (g 0, 8, .inl op))]) (Qc := zQi D [(k0, .inr (4, [.ref k1, .int v1, .int v2, .int v3])), (k1, .inl (g 0, 8, .inl op))] (fun (r : Int32) (_ : Unit) => r = f_fdR op) (fun _ => [(k0, .inr (4, [.ref k1, .int (nI (f_fdD op)), .int (nI (f_fdC op)), .int (f_fdA op)])), (k1, .inl (g 0, 8, .inl (f_fdO op)))])) (ret := (some .boolean)) (by decide) rfl (Nat.le_of_ble_eq_true rfl) ?_ sz
  intro p e s m args below meth c A Q hA hQ F E hr hlk hin
  have L12 : ∀ (N12_ : Nat) (i : Nat) (d : Nat) (c9 : Nat) (hN12_ : 8 - i < N12_) (hi : 1 ≤ i ∧ i ≤ 8) (hd : d < 8 ∧ c9 < 8) (hv : (d, c9) = f_fdN op (i - 1)), zW p l e { frames := 1, cells := 0, slots := 0, locals := 14 } s m args below meth c 2 D A Q 0 0 [(k0, .inr (4, [.ref k1, .int (nI d), .int (nI c9), .int v3])), (k1, .inl (g 0, 8, .inl op))] [(0, .ref k0), (1, .int (nI i))] [] 12 := by
    intro N12_
    induction N12_ with
    | zero =>
      intro i d c9 hN12_
      exact absurd hN12_ (Nat.not_lt_zero _)
    | succ N12_ ih12 =>
      intro i d c9 hN12_ hi hd hv
      refine z_iload_n F 1 dX1_findDebt_12 rfl rfl ?_
      refine z_bipush (v := 8) F dX1_findDebt_13 (by decide) ?_
      refine z_icmp_ge (tgt := 70) F dX1_findDebt_15 (by decide) (fun c1 => ?_) (fun c1 => ?_)
      · have hi8 : i = 8 := by have := z_ge (by omega) (by decide) (show nI 8 ≤ nI i from c1); omega
        rw [hi8] at hv
        have hD : f_fdD op = d := (congrArg Prod.fst hv).symm
        have hC : f_fdC op = c9 := (congrArg Prod.snd hv).symm
        have hAm : f_fdA op = z_min (-(op d)) (op c9) := by rw [f_fdA, hD, hC]
        refine z_aload_n F 0 dX1_findDebt_70 rfl rfl ?_
        refine z_aload_n F 0 dX1_findDebt_71 rfl rfl ?_
        refine z_get (C := RX1) (T := TX1) (N := 4) F (fun w h => List.mem_cons_of_mem _ (List.mem_append_left _ (List.mem_append_right _ (h)))) 0 rfl rfl 0 (by decide) (List.mem_cons_of_mem _ (List.mem_append_left _ (List.mem_append_left _ (List.mem_of_getElem? (i := 2) rfl)))) rfl rfl dX1_findDebt_72 ?_
        refine z_aload_n F 0 dX1_findDebt_75 rfl rfl ?_
        refine z_get (C := RX1) (T := TX1) (N := 4) F (fun w h => List.mem_cons_of_mem _ (List.mem_append_left _ (List.mem_append_right _ (h)))) 0 rfl rfl 1 (by decide) (List.mem_cons_of_mem _ (List.mem_append_left _ (List.mem_append_left _ (List.mem_of_getElem? (i := 0) rfl)))) rfl rfl dX1_findDebt_76 ?_
        refine z_ialdN (j := d) F 1 0 rfl rfl (by omega) (by decide) dX1_findDebt_79 ?_
        refine z_ineg F dX1_findDebt_80 ?_
        refine z_aload_n F 0 dX1_findDebt_81 rfl rfl ?_
        refine z_get (C := RX1) (T := TX1) (N := 4) F (fun w h => List.mem_cons_of_mem _ (List.mem_append_left _ (List.mem_append_right _ (h)))) 0 rfl rfl 0 (by decide) (List.mem_cons_of_mem _ (List.mem_append_left _ (List.mem_append_left _ (List.mem_of_getElem? (i := 2) rfl)))) rfl rfl dX1_findDebt_82 ?_
        refine z_aload_n F 0 dX1_findDebt_85 rfl rfl ?_
        refine z_get (C := RX1) (T := TX1) (N := 4) F (fun w h => List.mem_cons_of_mem _ (List.mem_append_left _ (List.mem_append_right _ (h)))) 0 rfl rfl 2 (by decide) (List.mem_cons_of_mem _ (List.mem_append_left _ (List.mem_append_left _ (List.mem_of_getElem? (i := 1) rfl)))) rfl rfl dX1_findDebt_86 ?_
        refine z_ialdN (j := c9) F 1 0 rfl rfl (by omega) (by decide) dX1_findDebt_89 ?_
        refine z_mmin F (List.mem_cons_of_mem _ (List.mem_append_left _ (List.mem_append_left _ (List.mem_of_getElem? (i := 3) rfl)))) (List.mem_cons_of_mem _ (List.mem_append_left _ (List.mem_append_left _ (List.mem_of_getElem? (i := 4) rfl)))) (List.mem_cons_of_mem _ (List.mem_append_left _ (List.mem_append_left _ (List.mem_of_getElem? (i := 5) rfl)))) (List.mem_cons_of_mem _ (List.mem_append_left _ (List.mem_append_left _ (List.mem_of_getElem? (i := 6) rfl)))) (Nat.le_of_ble_eq_true rfl) (Nat.le_of_ble_eq_true rfl) (Nat.le_of_ble_eq_true rfl) (Nat.le_of_ble_eq_true rfl) dX1_findDebt_90 ?_
        refine z_top (y := f_fdA op) (hAm.symm) ?_
        refine z_put (C := RX1) (T := TX1) (N := 4) (ty := .int) (ws' := [(k0, .inr (4, [.ref k1, .int (nI d), .int (nI c9), .int (f_fdA op)])), (k1, .inl (g 0, 8, .inl op))]) F (fun w h => List.mem_cons_of_mem _ (List.mem_append_left _ (List.mem_append_right _ (h)))) tyX1 tyX1_ok nmX1 0 rfl rfl 3 (by decide) (List.mem_cons_of_mem _ (List.mem_append_left _ (List.mem_append_left _ (List.mem_of_getElem? (i := 7) rfl)))) rfl rfl (by decide +kernel) (rfl) (rfl) (Nat.le_of_ble_eq_true rfl) rfl dX1_findDebt_93 ?_
        refine z_aload_n F 0 dX1_findDebt_96 rfl rfl ?_
        refine z_get (C := RX1) (T := TX1) (N := 4) F (fun w h => List.mem_cons_of_mem _ (List.mem_append_left _ (List.mem_append_right _ (h)))) 0 rfl rfl 0 (by decide) (List.mem_cons_of_mem _ (List.mem_append_left _ (List.mem_append_left _ (List.mem_of_getElem? (i := 2) rfl)))) rfl rfl dX1_findDebt_97 ?_
        refine z_aload_n F 0 dX1_findDebt_100 rfl rfl ?_
        refine z_get (C := RX1) (T := TX1) (N := 4) F (fun w h => List.mem_cons_of_mem _ (List.mem_append_left _ (List.mem_append_right _ (h)))) 0 rfl rfl 1 (by decide) (List.mem_cons_of_mem _ (List.mem_append_left _ (List.mem_append_left _ (List.mem_of_getElem? (i := 0) rfl)))) rfl rfl dX1_findDebt_101 ?_
        refine z_dup2 F dX1_findDebt_104 rfl rfl ?_
        refine z_ialdN (j := d) F 1 0 rfl rfl (by omega) (by decide) dX1_findDebt_105 ?_
        refine z_aload_n F 0 dX1_findDebt_106 rfl rfl ?_
        refine z_get (C := RX1) (T := TX1) (N := 4) F (fun w h => List.mem_cons_of_mem _ (List.mem_append_left _ (List.mem_append_right _ (h)))) 0 rfl rfl 3 (by decide) (List.mem_cons_of_mem _ (List.mem_append_left _ (List.mem_append_left _ (List.mem_of_getElem? (i := 7) rfl)))) rfl rfl dX1_findDebt_107 ?_
        refine z_iadd F dX1_findDebt_110 ?_
        refine z_iastN (j := d) (ws' := [(k0, .inr (4, [.ref k1, .int (nI d), .int (nI c9), .int (f_fdA op)])), (k1, .inl (g 0, 8, .inl (upd op d ((op d) + (f_fdA op)))))]) F 1 0 rfl rfl (by omega) (by decide) rfl dX1_findDebt_111 ?_
        refine z_aload_n F 0 dX1_findDebt_112 rfl rfl ?_
        refine z_get (C := RX1) (T := TX1) (N := 4) F (fun w h => List.mem_cons_of_mem _ (List.mem_append_left _ (List.mem_append_right _ (h)))) 0 rfl rfl 0 (by decide) (List.mem_cons_of_mem _ (List.mem_append_left _ (List.mem_append_left _ (List.mem_of_getElem? (i := 2) rfl)))) rfl rfl dX1_findDebt_113 ?_
        refine z_aload_n F 0 dX1_findDebt_116 rfl rfl ?_
        refine z_get (C := RX1) (T := TX1) (N := 4) F (fun w h => List.mem_cons_of_mem _ (List.mem_append_left _ (List.mem_append_right _ (h)))) 0 rfl rfl 2 (by decide) (List.mem_cons_of_mem _ (List.mem_append_left _ (List.mem_append_left _ (List.mem_of_getElem? (i := 1) rfl)))) rfl rfl dX1_findDebt_117 ?_
        refine z_dup2 F dX1_findDebt_120 rfl rfl ?_
        refine z_ialdN (j := c9) F 1 0 rfl rfl (by omega) (by decide) dX1_findDebt_121 ?_
        refine z_aload_n F 0 dX1_findDebt_122 rfl rfl ?_
        refine z_get (C := RX1) (T := TX1) (N := 4) F (fun w h => List.mem_cons_of_mem _ (List.mem_append_left _ (List.mem_append_right _ (h)))) 0 rfl rfl 3 (by decide) (List.mem_cons_of_mem _ (List.mem_append_left _ (List.mem_append_left _ (List.mem_of_getElem? (i := 7) rfl)))) rfl rfl dX1_findDebt_123 ?_
        refine z_isub F dX1_findDebt_126 ?_
        refine z_iastN (j := c9) (ws' := [(k0, .inr (4, [.ref k1, .int (nI d), .int (nI c9), .int (f_fdA op)])), (k1, .inl (g 0, 8, .inl (upd (upd op d ((op d) + (f_fdA op))) c9 (((upd op d ((op d) + (f_fdA op))) c9) - (f_fdA op)))))]) F 1 0 rfl rfl (by omega) (by decide) rfl dX1_findDebt_127 ?_
        refine z_aload_n F 0 dX1_findDebt_128 rfl rfl ?_
        refine z_get (C := RX1) (T := TX1) (N := 4) F (fun w h => List.mem_cons_of_mem _ (List.mem_append_left _ (List.mem_append_right _ (h)))) 0 rfl rfl 3 (by decide) (List.mem_cons_of_mem _ (List.mem_append_left _ (List.mem_append_left _ (List.mem_of_getElem? (i := 7) rfl)))) rfl rfl dX1_findDebt_129 ?_
        refine z_if_le (tgt := 139) F dX1_findDebt_132 (by decide) (fun c2 => ?_) (fun c2 => ?_)
        · refine z_iconst (v := 0) F dX1_findDebt_139 (by decide) ?_
          exact z_zret F hA hQ hlk hr (rfl) () (by simp only [f_fdR, if_pos c2]) (by simp only [f_fdO, hD, hC]) dX1_findDebt_140
        · refine z_iconst (v := 1) F dX1_findDebt_135 (by decide) ?_
          refine z_goto (tgt := 140) F dX1_findDebt_136 (by decide) ?_
          exact z_zret F hA hQ hlk hr (rfl) () (by simp only [f_fdR, if_neg c2]) (by simp only [f_fdO, hD, hC]) dX1_findDebt_140
      · have hi8 : i < 8 := z_lt (by omega) (by decide) c1
        refine z_aload_n F 0 dX1_findDebt_18 rfl rfl ?_
        refine z_get (C := RX1) (T := TX1) (N := 4) F (fun w h => List.mem_cons_of_mem _ (List.mem_append_left _ (List.mem_append_right _ (h)))) 0 rfl rfl 0 (by decide) (List.mem_cons_of_mem _ (List.mem_append_left _ (List.mem_append_left _ (List.mem_of_getElem? (i := 2) rfl)))) rfl rfl dX1_findDebt_19 ?_
        refine z_iload_n F 1 dX1_findDebt_22 rfl rfl ?_
        refine z_ialdN (j := i) F 1 0 rfl rfl (by omega) (by decide) dX1_findDebt_23 ?_
        refine z_aload_n F 0 dX1_findDebt_24 rfl rfl ?_
        refine z_get (C := RX1) (T := TX1) (N := 4) F (fun w h => List.mem_cons_of_mem _ (List.mem_append_left _ (List.mem_append_right _ (h)))) 0 rfl rfl 0 (by decide) (List.mem_cons_of_mem _ (List.mem_append_left _ (List.mem_append_left _ (List.mem_of_getElem? (i := 2) rfl)))) rfl rfl dX1_findDebt_25 ?_
        refine z_aload_n F 0 dX1_findDebt_28 rfl rfl ?_
        refine z_get (C := RX1) (T := TX1) (N := 4) F (fun w h => List.mem_cons_of_mem _ (List.mem_append_left _ (List.mem_append_right _ (h)))) 0 rfl rfl 1 (by decide) (List.mem_cons_of_mem _ (List.mem_append_left _ (List.mem_append_left _ (List.mem_of_getElem? (i := 0) rfl)))) rfl rfl dX1_findDebt_29 ?_
        refine z_ialdN (j := d) F 1 0 rfl rfl (by omega) (by decide) dX1_findDebt_32 ?_
        refine z_icmp_ge (tgt := 41) F dX1_findDebt_33 (by decide) (fun c3 => ?_) (fun c3 => ?_)
        · refine z_aload_n F 0 dX1_findDebt_41 rfl rfl ?_
          refine z_get (C := RX1) (T := TX1) (N := 4) F (fun w h => List.mem_cons_of_mem _ (List.mem_append_left _ (List.mem_append_right _ (h)))) 0 rfl rfl 0 (by decide) (List.mem_cons_of_mem _ (List.mem_append_left _ (List.mem_append_left _ (List.mem_of_getElem? (i := 2) rfl)))) rfl rfl dX1_findDebt_42 ?_
          refine z_iload_n F 1 dX1_findDebt_45 rfl rfl ?_
          refine z_ialdN (j := i) F 1 0 rfl rfl (by omega) (by decide) dX1_findDebt_46 ?_
          refine z_aload_n F 0 dX1_findDebt_47 rfl rfl ?_
          refine z_get (C := RX1) (T := TX1) (N := 4) F (fun w h => List.mem_cons_of_mem _ (List.mem_append_left _ (List.mem_append_right _ (h)))) 0 rfl rfl 0 (by decide) (List.mem_cons_of_mem _ (List.mem_append_left _ (List.mem_append_left _ (List.mem_of_getElem? (i := 2) rfl)))) rfl rfl dX1_findDebt_48 ?_
          refine z_aload_n F 0 dX1_findDebt_51 rfl rfl ?_
          refine z_get (C := RX1) (T := TX1) (N := 4) F (fun w h => List.mem_cons_of_mem _ (List.mem_append_left _ (List.mem_append_right _ (h)))) 0 rfl rfl 2 (by decide) (List.mem_cons_of_mem _ (List.mem_append_left _ (List.mem_append_left _ (List.mem_of_getElem? (i := 1) rfl)))) rfl rfl dX1_findDebt_52 ?_
          refine z_ialdN (j := c9) F 1 0 rfl rfl (by omega) (by decide) dX1_findDebt_55 ?_
          refine z_icmp_le (tgt := 64) F dX1_findDebt_56 (by decide) (fun c4 => ?_) (fun c4 => ?_)
          · refine z_iinc (v := nI (i + 1)) (lv' := [(1, .int (nI (i + 1))), (0, .ref k0)]) F dX1_findDebt_64 1 rfl (nI_1 i) (by decide) rfl ?_
            refine z_goto (tgt := 12) F dX1_findDebt_67 (by decide) ?_
            refine z_loc (lv' := [(0, .ref k0), (1, .int (nI (i + 1)))]) [1, 0] rfl ?_
            exact ih12 (i + 1) d c9 (by omega) (by omega) (by omega) (by first | rfl | (rw [show i + 1 - 1 = (i - 1) + 1 by omega]; simp only [f_fdN, ← hv, show i - 1 + 1 = i by omega, if_pos c3, if_pos c4]))
          · refine z_aload_n F 0 dX1_findDebt_59 rfl rfl ?_
            refine z_iload_n F 1 dX1_findDebt_60 rfl rfl ?_
            refine z_put (C := RX1) (T := TX1) (N := 4) (ty := .int) (ws' := [(k0, .inr (4, [.ref k1, .int (nI d), .int (nI i), .int v3])), (k1, .inl (g 0, 8, .inl op))]) F (fun w h => List.mem_cons_of_mem _ (List.mem_append_left _ (List.mem_append_right _ (h)))) tyX1 tyX1_ok nmX1 0 rfl rfl 2 (by decide) (List.mem_cons_of_mem _ (List.mem_append_left _ (List.mem_append_left _ (List.mem_of_getElem? (i := 1) rfl)))) rfl rfl (by decide +kernel) (rfl) (rfl) (Nat.le_of_ble_eq_true rfl) rfl dX1_findDebt_61 ?_
            refine z_iinc (v := nI (i + 1)) (lv' := [(1, .int (nI (i + 1))), (0, .ref k0)]) F dX1_findDebt_64 1 rfl (nI_1 i) (by decide) rfl ?_
            refine z_goto (tgt := 12) F dX1_findDebt_67 (by decide) ?_
            refine z_loc (lv' := [(0, .ref k0), (1, .int (nI (i + 1)))]) [1, 0] rfl ?_
            exact ih12 (i + 1) d i (by omega) (by omega) (by omega) (by first | rfl | (rw [show i + 1 - 1 = (i - 1) + 1 by omega]; simp only [f_fdN, ← hv, show i - 1 + 1 = i by omega, if_pos c3, if_neg c4]))
        · refine z_aload_n F 0 dX1_findDebt_36 rfl rfl ?_
          refine z_iload_n F 1 dX1_findDebt_37 rfl rfl ?_
          refine z_put (C := RX1) (T := TX1) (N := 4) (ty := .int) (ws' := [(k0, .inr (4, [.ref k1, .int (nI i), .int (nI c9), .int v3])), (k1, .inl (g 0, 8, .inl op))]) F (fun w h => List.mem_cons_of_mem _ (List.mem_append_left _ (List.mem_append_right _ (h)))) tyX1 tyX1_ok nmX1 0 rfl rfl 1 (by decide) (List.mem_cons_of_mem _ (List.mem_append_left _ (List.mem_append_left _ (List.mem_of_getElem? (i := 0) rfl)))) rfl rfl (by decide +kernel) (rfl) (rfl) (Nat.le_of_ble_eq_true rfl) rfl dX1_findDebt_38 ?_
          refine z_aload_n F 0 dX1_findDebt_41 rfl rfl ?_
          refine z_get (C := RX1) (T := TX1) (N := 4) F (fun w h => List.mem_cons_of_mem _ (List.mem_append_left _ (List.mem_append_right _ (h)))) 0 rfl rfl 0 (by decide) (List.mem_cons_of_mem _ (List.mem_append_left _ (List.mem_append_left _ (List.mem_of_getElem? (i := 2) rfl)))) rfl rfl dX1_findDebt_42 ?_
          refine z_iload_n F 1 dX1_findDebt_45 rfl rfl ?_
          refine z_ialdN (j := i) F 1 0 rfl rfl (by omega) (by decide) dX1_findDebt_46 ?_
          refine z_aload_n F 0 dX1_findDebt_47 rfl rfl ?_
          refine z_get (C := RX1) (T := TX1) (N := 4) F (fun w h => List.mem_cons_of_mem _ (List.mem_append_left _ (List.mem_append_right _ (h)))) 0 rfl rfl 0 (by decide) (List.mem_cons_of_mem _ (List.mem_append_left _ (List.mem_append_left _ (List.mem_of_getElem? (i := 2) rfl)))) rfl rfl dX1_findDebt_48 ?_
          refine z_aload_n F 0 dX1_findDebt_51 rfl rfl ?_
          refine z_get (C := RX1) (T := TX1) (N := 4) F (fun w h => List.mem_cons_of_mem _ (List.mem_append_left _ (List.mem_append_right _ (h)))) 0 rfl rfl 2 (by decide) (List.mem_cons_of_mem _ (List.mem_append_left _ (List.mem_append_left _ (List.mem_of_getElem? (i := 1) rfl)))) rfl rfl dX1_findDebt_52 ?_
          refine z_ialdN (j := c9) F 1 0 rfl rfl (by omega) (by decide) dX1_findDebt_55 ?_
          refine z_icmp_le (tgt := 64) F dX1_findDebt_56 (by decide) (fun c5 => ?_) (fun c5 => ?_)
          · refine z_iinc (v := nI (i + 1)) (lv' := [(1, .int (nI (i + 1))), (0, .ref k0)]) F dX1_findDebt_64 1 rfl (nI_1 i) (by decide) rfl ?_
            refine z_goto (tgt := 12) F dX1_findDebt_67 (by decide) ?_
            refine z_loc (lv' := [(0, .ref k0), (1, .int (nI (i + 1)))]) [1, 0] rfl ?_
            exact ih12 (i + 1) i c9 (by omega) (by omega) (by omega) (by first | rfl | (rw [show i + 1 - 1 = (i - 1) + 1 by omega]; simp only [f_fdN, ← hv, show i - 1 + 1 = i by omega, if_neg c3, if_pos c5]))
          · refine z_aload_n F 0 dX1_findDebt_59 rfl rfl ?_
            refine z_iload_n F 1 dX1_findDebt_60 rfl rfl ?_
            refine z_put (C := RX1) (T := TX1) (N := 4) (ty := .int) (ws' := [(k0, .inr (4, [.ref k1, .int (nI i), .int (nI i), .int v3])), (k1, .inl (g 0, 8, .inl op))]) F (fun w h => List.mem_cons_of_mem _ (List.mem_append_left _ (List.mem_append_right _ (h)))) tyX1 tyX1_ok nmX1 0 rfl rfl 2 (by decide) (List.mem_cons_of_mem _ (List.mem_append_left _ (List.mem_append_left _ (List.mem_of_getElem? (i := 1) rfl)))) rfl rfl (by decide +kernel) (rfl) (rfl) (Nat.le_of_ble_eq_true rfl) rfl dX1_findDebt_61 ?_
            refine z_iinc (v := nI (i + 1)) (lv' := [(1, .int (nI (i + 1))), (0, .ref k0)]) F dX1_findDebt_64 1 rfl (nI_1 i) (by decide) rfl ?_
            refine z_goto (tgt := 12) F dX1_findDebt_67 (by decide) ?_
            refine z_loc (lv' := [(0, .ref k0), (1, .int (nI (i + 1)))]) [1, 0] rfl ?_
            exact ih12 (i + 1) i i (by omega) (by omega) (by omega) (by first | rfl | (rw [show i + 1 - 1 = (i - 1) + 1 by omega]; simp only [f_fdN, ← hv, show i - 1 + 1 = i by omega, if_neg c3, if_neg c5]))
  show zW p l e { frames := 1, cells := 0, slots := 0, locals := 14 } s m args below meth c 2 D A Q 0 0 [(k0, .inr (4, [.ref k1, .int v1, .int v2, .int v3])), (k1, .inl (g 0, 8, .inl op))] [(0, .ref k0)] [] 0
  refine z_aload_n F 0 dX1_findDebt_0 rfl rfl ?_
  refine z_iconst (v := 0) F dX1_findDebt_1 (by decide) ?_
  refine z_put (C := RX1) (T := TX1) (N := 4) (ty := .int) (ws' := [(k0, .inr (4, [.ref k1, .int 0, .int v2, .int v3])), (k1, .inl (g 0, 8, .inl op))]) F (fun w h => List.mem_cons_of_mem _ (List.mem_append_left _ (List.mem_append_right _ (h)))) tyX1 tyX1_ok nmX1 0 rfl rfl 1 (by decide) (List.mem_cons_of_mem _ (List.mem_append_left _ (List.mem_append_left _ (List.mem_of_getElem? (i := 0) rfl)))) rfl rfl (by decide +kernel) (rfl) (rfl) (Nat.le_of_ble_eq_true rfl) rfl dX1_findDebt_2 ?_
  refine z_aload_n F 0 dX1_findDebt_5 rfl rfl ?_
  refine z_iconst (v := 0) F dX1_findDebt_6 (by decide) ?_
  refine z_put (C := RX1) (T := TX1) (N := 4) (ty := .int) (ws' := [(k0, .inr (4, [.ref k1, .int 0, .int 0, .int v3])), (k1, .inl (g 0, 8, .inl op))]) F (fun w h => List.mem_cons_of_mem _ (List.mem_append_left _ (List.mem_append_right _ (h)))) tyX1 tyX1_ok nmX1 0 rfl rfl 2 (by decide) (List.mem_cons_of_mem _ (List.mem_append_left _ (List.mem_append_left _ (List.mem_of_getElem? (i := 1) rfl)))) rfl rfl (by decide +kernel) (rfl) (rfl) (Nat.le_of_ble_eq_true rfl) rfl dX1_findDebt_7 ?_
  refine z_iconst (v := 1) F dX1_findDebt_10 (by decide) ?_
  refine z_istore_n (lv' := [(1, .int 1), (0, .ref k0)]) F dX1_findDebt_11 rfl (by decide) rfl ?_
  refine z_loc (lv' := [(0, .ref k0), (1, .int (nI 1))]) [1, 0] rfl ?_
  exact L12 _ 1 0 0 (Nat.lt_succ_self _) (by omega) (by omega) (by first | rfl | (rw [show i + 1 - 1 = (i - 1) + 1 by omega]; simp only [f_fdN, ← hv, show i - 1 + 1 = i by omega]))
set_option maxHeartbeats 4000000 in
set_option maxRecDepth 100000 in
theorem c_X1_openPositions (l : Launch) (D : va_G) (g : Nat → ClassId) (k0 : Nat) (k1 : Nat) (op : Nat → Int32) (v1 : Int32) (v2 : Int32) (v3 : Int32) (q0 : Nat) (q1 : Nat) (q2 : Nat) (q3 : Nat) (q4 : Nat) (q5 : Nat) (q6 : Nat) (am : Nat → Int32) (mc : Nat) (hc : Int32) (ne : Int32) (lo : Int32) (sz : Nat) : Met l yX1_openPositions wsX1_openPositions { frames := 3, cells := 0, slots := 0, locals := 66 } (zPc D (gT g) zNo [.ref k0, .ref q0] [(k1, .inl (g 0, 8, .inl op))] [(k0, .inr (4, [.ref k1, .int v1, .int v2, .int v3])), (q0, .inr (7, [.ref q1, .ref q2, .ref q3, .ref q4, .ref q5, .ref q6, .int (nI mc), .int hc, .int ne, .int lo])), (q1, .inl (g 0, 64, .inl am))] sz) (zQv D [(k1, .inl (g 0, 8, .inl op))] (fun (_ : Unit) => True) (fun _ => [(k1, .inl (g 0, 8, .inl (fun k => f_pos am k)))]) sz) 0 0 (va_A [(k1, .inl (g 0, 8, .inl op))] sz) := by
  refine z_met (y := yX1_openPositions) (cc := cX1_openPositions) (nL := 3) (rm := { frames := 3, cells := 0, slots := 0, locals := 66 }) (D := D) (tys := gT g) (wr := [(k0, .inr (4, [.ref k1, .int v1, .int v2, .int v3])), (q0, .inr (7, [.ref q1, .ref q2, .ref q3, .ref q4, .ref q5, .ref q6, .int (nI mc), .int hc, .int ne, .int lo])), (q1, .inl (g 0, 64, .inl am))]) (P0 := zNo) (As := [.ref k0, .ref q0]) (ww := [(k1, .inl (g 0, 8, .inl op))]) (Qc := zQv D [(k1, .inl (g 0, 8, .inl op))] (fun (_ : Unit) => True) (fun _ => [(k1, .inl (g 0, 8, .inl (fun k => f_pos am k)))])) (ret := none) (by decide) rfl (Nat.le_of_ble_eq_true rfl) ?_ sz
  intro p e s m args below meth c A Q hA hQ F E hr hlk hin
  have L2 : ∀ (N2_ : Nat) (i : Nat) (op1 : Nat → Int32) (hN2_ : 8 - i < N2_) (hi : i ≤ 8) (hv : ∀ k, k < i → op1 k = f_pos am k), zW p l e { frames := 3, cells := 0, slots := 0, locals := 66 } s m args below meth c 3 D A Q 0 0 [(k1, .inl (g 0, 8, .inl op1))] [(0, .ref k0), (1, .ref q0), (2, .int (nI i))] [] 2 := by
    intro N2_
    induction N2_ with
    | zero =>
      intro i op1 hN2_
      exact absurd hN2_ (Nat.not_lt_zero _)
    | succ N2_ ih2 =>
      intro i op1 hN2_ hi hv
      refine z_iload_n F 2 dX1_openPositions_2 rfl rfl ?_
      refine z_bipush (v := 8) F dX1_openPositions_3 (by decide) ?_
      refine z_icmp_ge (tgt := 25) F dX1_openPositions_5 (by decide) (fun c1 => ?_) (fun c1 => ?_)
      · have hi8 : i = 8 := by have := z_ge (by omega) (by decide) (show nI 8 ≤ nI i from c1); omega
        rw [hi8] at hv
        refine z_cext (f' := fun k => f_pos am k) (ws' := [(k1, .inl (g 0, 8, .inl (fun k => f_pos am k)))]) 0 rfl (hv) rfl ?_
        exact z_vret F hA hQ hlk hr () (trivial) (rfl) dX1_openPositions_25
      · have hi8 : i < 8 := z_lt (by omega) (by decide) c1
        refine z_aload_n F 0 dX1_openPositions_8 rfl rfl ?_
        refine z_get (C := RX1) (T := TX1) (N := 4) F (fun w h => List.mem_cons_of_mem _ (List.mem_append_left _ (List.mem_append_left _ (List.mem_append_right _ (h))))) 1 rfl rfl 0 (by decide) (List.mem_cons_of_mem _ (List.mem_append_left _ (List.mem_append_left _ (List.mem_append_left _ (List.mem_of_getElem? (i := 0) rfl))))) rfl rfl dX1_openPositions_9 ?_
        refine z_iload_n F 2 dX1_openPositions_12 rfl rfl ?_
        refine z_aload_n F 1 dX1_openPositions_13 rfl rfl ?_
        refine z_iload_n F 2 dX1_openPositions_14 rfl rfl ?_
        refine z_calli0 F (z_runV (st := [.int (nI i), .ref k1]) F zNo_ok trivial (fun sz => c_X5_positionOf l D g q0 q1 q2 q3 q4 q5 q6 am mc hc ne lo i (by omega) sz) (cwV 1 F.1.2.2.2.2 gX1_openPositions_X5_positionOf rfl rfl rfl (by decide +kernel) ⟨Nat.le_of_ble_eq_true rfl, Nat.le_of_ble_eq_true rfl⟩) 2 rfl rfl rfl [] [2, 3] rfl rfl (by decide) rfl rfl (Nat.le_of_ble_eq_true rfl) dX1_openPositions_15 ⟨Nat.le_of_ble_eq_true rfl, Nat.le_of_ble_eq_true rfl⟩) (fun r3 _ hw2 => ?_)
        subst hw2
        refine z_iastN (j := i) (ws' := [(k1, .inl (g 0, 8, .inl (upd op1 i (f_pos am i))))]) F 0 0 rfl rfl (by omega) (by decide) rfl dX1_openPositions_18 ?_
        refine z_iinc (v := nI (i + 1)) (lv' := [(2, .int (nI (i + 1))), (0, .ref k0), (1, .ref q0)]) F dX1_openPositions_19 2 rfl (nI_1 i) (by decide) rfl ?_
        refine z_goto (tgt := 2) F dX1_openPositions_22 (by decide) ?_
        refine z_loc (lv' := [(0, .ref k0), (1, .ref q0), (2, .int (nI (i + 1)))]) [1, 2, 0] rfl ?_
        exact ih2 (i + 1) (upd op1 i (f_pos am i)) (by omega) (by omega) (z_up (f' := fun k => f_pos am k) hv rfl)
  show zW p l e { frames := 3, cells := 0, slots := 0, locals := 66 } s m args below meth c 3 D A Q 0 0 [(k1, .inl (g 0, 8, .inl op))] [(0, .ref k0), (1, .ref q0)] [] 0
  refine z_iconst (v := 0) F dX1_openPositions_0 (by decide) ?_
  refine z_istore_n (lv' := [(2, .int 0), (0, .ref k0), (1, .ref q0)]) F dX1_openPositions_1 rfl (by decide) rfl ?_
  refine z_loc (lv' := [(0, .ref k0), (1, .ref q0), (2, .int (nI 0))]) [1, 2, 0] rfl ?_
  exact L2 _ 0 op (Nat.lt_succ_self _) (by omega) (fun k hk => absurd hk (Nat.not_lt_zero k))
set_option maxHeartbeats 4000000 in
set_option maxRecDepth 100000 in
theorem c_X1_replaceDebts (l : Launch) (D : va_G) (g : Nat → ClassId) (k0 : Nat) (k1 : Nat) (op : Nat → Int32) (v1 : Int32) (v2 : Int32) (v3 : Int32) (q0 : Nat) (q1 : Nat) (q2 : Nat) (q3 : Nat) (q4 : Nat) (q5 : Nat) (q6 : Nat) (am : Nat → Int32) (ac : Nat → Int32) (mc : Nat) (hc : Int32) (ne : Int32) (lo : Int32) (sz : Nat) : Met l yX1_replaceDebts wsX1_replaceDebts { frames := 4, cells := 0, slots := 0, locals := 88 } (zPc D (gT g) zNo [.ref k0, .ref q0] [(k0, .inr (4, [.ref k1, .int v1, .int v2, .int v3])), (k1, .inl (g 0, 8, .inl op)), (q1, .inl (g 0, 64, .inl am)), (q5, .inl (g 0, 8, .inl ac))] [(q0, .inr (7, [.ref q1, .ref q2, .ref q3, .ref q4, .ref q5, .ref q6, .int (nI mc), .int hc, .int ne, .int lo]))] sz) (zQi D [(k0, .inr (4, [.ref k1, .int v1, .int v2, .int v3])), (k1, .inl (g 0, 8, .inl op)), (q1, .inl (g 0, 64, .inl am)), (q5, .inl (g 0, 8, .inl ac))] (fun (r : Int32) (_ : (Nat → Int32) × Int32 × Int32 × Int32) => r = nI (f_cl am ac).2.2) (fun (u9 : (Nat → Int32) × Int32 × Int32 × Int32) => [(k0, .inr (4, [.ref k1, .int u9.2.1, .int u9.2.2.1, .int u9.2.2.2])), (k1, .inl (g 0, 8, .inl u9.1)), (q1, .inl (g 0, 64, .inl ((f_cl am ac).1))), (q5, .inl (g 0, 8, .inl ((f_cl am ac).2.1)))]) sz) 0 0 (va_A [(k0, .inr (4, [.ref k1, .int v1, .int v2, .int v3])), (k1, .inl (g 0, 8, .inl op)), (q1, .inl (g 0, 64, .inl am)), (q5, .inl (g 0, 8, .inl ac))] sz) := by
  refine z_met (y := yX1_replaceDebts) (cc := cX1_replaceDebts) (nL := 3) (rm := { frames := 4, cells := 0, slots := 0, locals := 88 }) (D := D) (tys := gT g) (wr := [(q0, .inr (7, [.ref q1, .ref q2, .ref q3, .ref q4, .ref q5, .ref q6, .int (nI mc), .int hc, .int ne, .int lo]))]) (P0 := zNo) (As := [.ref k0, .ref q0]) (ww := [(k0, .inr (4, [.ref k1, .int v1, .int v2, .int v3])), (k1, .inl (g 0, 8, .inl op)), (q1, .inl (g 0, 64, .inl am)), (q5, .inl (g 0, 8, .inl ac))]) (Qc := zQi D [(k0, .inr (4, [.ref k1, .int v1, .int v2, .int v3])), (k1, .inl (g 0, 8, .inl op)), (q1, .inl (g 0, 64, .inl am)), (q5, .inl (g 0, 8, .inl ac))] (fun (r : Int32) (_ : (Nat → Int32) × Int32 × Int32 × Int32) => r = nI (f_cl am ac).2.2) (fun (u9 : (Nat → Int32) × Int32 × Int32 × Int32) => [(k0, .inr (4, [.ref k1, .int u9.2.1, .int u9.2.2.1, .int u9.2.2.2])), (k1, .inl (g 0, 8, .inl u9.1)), (q1, .inl (g 0, 64, .inl ((f_cl am ac).1))), (q5, .inl (g 0, 8, .inl ((f_cl am ac).2.1)))])) (ret := (some .int)) (by decide) rfl (Nat.le_of_ble_eq_true rfl) ?_ sz
  intro p e s m args below meth c A Q hA hQ F E hr hlk hin
  have L26 : ∀ (N26_ : Nat) (i : Nat) (op1 : Nat → Int32) (am1 : Nat → Int32) (ac1 : Nat → Int32) (x1 : Int32) (x2 : Int32) (x3 : Int32) (hN26_ : 8 - i < N26_) (hi : i ≤ 8) (hv : f_cl am ac = f_clF (8 - i) am1 ac1 op1 i), zW p l e { frames := 4, cells := 0, slots := 0, locals := 88 } s m args below meth c 3 D A Q 0 0 [(k0, .inr (4, [.ref k1, .int x1, .int x2, .int x3])), (k1, .inl (g 0, 8, .inl op1)), (q1, .inl (g 0, 64, .inl am1)), (q5, .inl (g 0, 8, .inl ac1))] [(0, .ref k0), (1, .ref q0), (2, .int (nI i))] [] 26 := by
    intro N26_
    induction N26_ with
    | zero =>
      intro i op1 am1 ac1 x1 x2 x3 hN26_
      exact absurd hN26_ (Nat.not_lt_zero _)
    | succ N26_ ih26 =>
      intro i op1 am1 ac1 x1 x2 x3 hN26_ hi hv
      refine z_iload_n F 2 dX1_replaceDebts_26 rfl rfl ?_
      refine z_bipush (v := 8) F dX1_replaceDebts_27 (by decide) ?_
      refine z_icmp_ge (tgt := 62) F dX1_replaceDebts_29 (by decide) (fun c1 => ?_) (fun c1 => ?_)
      · have hi8 : i = 8 := by have := z_ge (by omega) (by decide) (show nI 8 ≤ nI i from c1); omega
        refine z_iload_n F 2 dX1_replaceDebts_62 rfl rfl ?_
        exact z_iret F hA hQ hlk hr (op1, x1, x2, x3) (by rw [hv, hi8]; rfl) (by rw [hv, hi8]; rfl) dX1_replaceDebts_63
      · have hi8 : i < 8 := z_lt (by omega) (by decide) c1
        refine z_aload_n F 0 dX1_replaceDebts_32 rfl rfl ?_
        refine z_calli (wn := [(q1, .inl (g 0, 64, .inl am1)), (q5, .inl (g 0, 8, .inl ac1))]) (wf := fun _ => [(k0, .inr (4, [.ref k1, .int (nI (f_fdD op1)), .int (nI (f_fdC op1)), .int (f_fdA op1)])), (k1, .inl (g 0, 8, .inl (f_fdO op1))), (q1, .inl (g 0, 64, .inl am1)), (q5, .inl (g 0, 8, .inl ac1))]) F (z_runV (st := []) F zNo_ok trivial (fun sz => c_X1_findDebt l D g k0 k1 op1 x1 x2 x3 sz) (cwV 0 F.1.2.2.2.2 gX1_replaceDebts_X1_findDebt rfl rfl rfl (by decide +kernel) ⟨Nat.le_of_ble_eq_true rfl, Nat.le_of_ble_eq_true rfl⟩) 0 rfl rfl rfl [0, 1] [] rfl rfl (by decide) rfl rfl (Nat.le_of_ble_eq_true rfl) dX1_replaceDebts_33 ⟨Nat.le_of_ble_eq_true rfl, Nat.le_of_ble_eq_true rfl⟩) [0, 1] [2, 3] [2, 3, 0, 1] rfl rfl (by decide) (by decide) (by decide) (fun _ => rfl) (fun r3 _ hw2 => ?_)
        subst hw2
        refine z_if_eq (tgt := 62) F dX1_replaceDebts_36 (by decide) (fun c4 => ?_) (fun c4 => ?_)
        · have hz : f_fdA op1 ≤ 0 := z_fdR c4
          refine z_iload_n F 2 dX1_replaceDebts_62 rfl rfl ?_
          exact z_iret F hA hQ hlk hr (f_fdO op1, nI (f_fdD op1), nI (f_fdC op1), f_fdA op1) (by rw [hv, show 8 - i = (8 - (i + 1)) + 1 by omega]; simp only [f_clF, if_pos hz]) (by rw [hv, show 8 - i = (8 - (i + 1)) + 1 by omega]; simp only [f_clF, if_pos hz]) dX1_replaceDebts_63
        · have hz : ¬ f_fdA op1 ≤ 0 := z_fdRn c4
          refine z_aload_n F 1 dX1_replaceDebts_39 rfl rfl ?_
          refine z_aload_n F 0 dX1_replaceDebts_40 rfl rfl ?_
          refine z_get (C := RX1) (T := TX1) (N := 4) F (fun w h => List.mem_cons_of_mem _ (List.mem_append_left _ (List.mem_append_left _ (List.mem_append_right _ (h))))) 0 rfl rfl 1 (by decide) (List.mem_cons_of_mem _ (List.mem_append_left _ (List.mem_append_left _ (List.mem_append_left _ (List.mem_append_left _ (List.mem_of_getElem? (i := 0) rfl)))))) rfl rfl dX1_replaceDebts_41 ?_
          refine z_aload_n F 0 dX1_replaceDebts_44 rfl rfl ?_
          refine z_get (C := RX1) (T := TX1) (N := 4) F (fun w h => List.mem_cons_of_mem _ (List.mem_append_left _ (List.mem_append_left _ (List.mem_append_right _ (h))))) 0 rfl rfl 2 (by decide) (List.mem_cons_of_mem _ (List.mem_append_left _ (List.mem_append_left _ (List.mem_append_left _ (List.mem_append_left _ (List.mem_of_getElem? (i := 1) rfl)))))) rfl rfl dX1_replaceDebts_45 ?_
          refine z_aload_n F 0 dX1_replaceDebts_48 rfl rfl ?_
          refine z_get (C := RX1) (T := TX1) (N := 4) F (fun w h => List.mem_cons_of_mem _ (List.mem_append_left _ (List.mem_append_left _ (List.mem_append_right _ (h))))) 0 rfl rfl 3 (by decide) (List.mem_cons_of_mem _ (List.mem_append_left _ (List.mem_append_left _ (List.mem_append_left _ (List.mem_append_left _ (List.mem_of_getElem? (i := 2) rfl)))))) rfl rfl dX1_replaceDebts_49 ?_
          refine z_calli (wn := [(k0, .inr (4, [.ref k1, .int (nI (f_fdD op1)), .int (nI (f_fdC op1)), .int (f_fdA op1)])), (k1, .inl (g 0, 8, .inl (f_fdO op1)))]) (wf := fun _ => [(k0, .inr (4, [.ref k1, .int (nI (f_fdD op1)), .int (nI (f_fdC op1)), .int (f_fdA op1)])), (k1, .inl (g 0, 8, .inl (f_fdO op1))), (q1, .inl (g 0, 64, .inl (f_chA am1 (f_fdD op1) (f_fdC op1) (f_fdA op1)))), (q5, .inl (g 0, 8, .inl (f_chC ac1 (f_fdD op1) (f_fdC op1) (f_fdA op1))))]) F (z_runV (st := []) F zNo_ok trivial (fun sz => c_X5_changeDebt l D g q0 q1 q2 q3 q4 q5 q6 am1 ac1 mc hc ne lo (f_fdD op1) (f_fdC op1) (f_fdA op1) (f_fdD_lt op1) (f_fdC_lt op1) sz) (cwV 3 F.1.2.2.2.2 gX1_replaceDebts_X5_changeDebt rfl rfl rfl (by decide +kernel) ⟨Nat.le_of_ble_eq_true rfl, Nat.le_of_ble_eq_true rfl⟩) 4 rfl rfl rfl [2, 3] [4] rfl rfl (by decide) rfl rfl (Nat.le_of_ble_eq_true rfl) dX1_replaceDebts_52 ⟨Nat.le_of_ble_eq_true rfl, Nat.le_of_ble_eq_true rfl⟩) [2, 3] [0, 1] [0, 1, 2, 3] rfl rfl (by decide) (by decide) (by decide) (fun _ => rfl) (fun r6 _ hw5 => ?_)
          subst hw5
          refine z_pop F dX1_replaceDebts_55 rfl ?_
          refine z_iinc (v := nI (i + 1)) (lv' := [(2, .int (nI (i + 1))), (0, .ref k0), (1, .ref q0)]) F dX1_replaceDebts_56 2 rfl (nI_1 i) (by decide) rfl ?_
          refine z_goto (tgt := 26) F dX1_replaceDebts_59 (by decide) ?_
          refine z_loc (lv' := [(0, .ref k0), (1, .ref q0), (2, .int (nI (i + 1)))]) [1, 2, 0] rfl ?_
          exact ih26 (i + 1) (f_fdO op1) (f_chA am1 (f_fdD op1) (f_fdC op1) (f_fdA op1)) (f_chC ac1 (f_fdD op1) (f_fdC op1) (f_fdA op1)) (nI (f_fdD op1)) (nI (f_fdC op1)) (f_fdA op1) (by omega) (by omega) (by rw [hv, show 8 - i = (8 - (i + 1)) + 1 by omega]; simp only [f_clF, if_neg c4, if_neg hz])
  have L7 : ∀ (N7_ : Nat) (i : Nat) (am1 : Nat → Int32) (ac1 : Nat → Int32) (hN7_ : 8 - i < N7_) (hi : i ≤ 8) (hv : (am1, ac1) = f_faN am ac i), zW p l e { frames := 4, cells := 0, slots := 0, locals := 88 } s m args below meth c 3 D A Q 0 0 [(k0, .inr (4, [.ref k1, .int v1, .int v2, .int v3])), (k1, .inl (g 0, 8, .inl (fun k => f_pos am k))), (q1, .inl (g 0, 64, .inl am1)), (q5, .inl (g 0, 8, .inl ac1))] [(0, .ref k0), (1, .ref q0), (2, .int (nI i))] [] 7 := by
    intro N7_
    induction N7_ with
    | zero =>
      intro i am1 ac1 hN7_
      exact absurd hN7_ (Nat.not_lt_zero _)
    | succ N7_ ih7 =>
      intro i am1 ac1 hN7_ hi hv
      refine z_iload_n F 2 dX1_replaceDebts_7 rfl rfl ?_
      refine z_bipush (v := 8) F dX1_replaceDebts_8 (by decide) ?_
      refine z_icmp_ge (tgt := 24) F dX1_replaceDebts_10 (by decide) (fun c7 => ?_) (fun c7 => ?_)
      · have hi8 : i = 8 := by have := z_ge (by omega) (by decide) (show nI 8 ≤ nI i from c7); omega
        refine z_iconst (v := 0) F dX1_replaceDebts_24 (by decide) ?_
        refine z_istore_n (lv' := [(2, .int 0), (0, .ref k0), (1, .ref q0)]) F dX1_replaceDebts_25 rfl (by decide) rfl ?_
        refine z_loc (lv' := [(0, .ref k0), (1, .ref q0), (2, .int (nI 0))]) [1, 2, 0] rfl ?_
        exact L26 _ 0 (fun k => f_pos am k) am1 ac1 v1 v2 v3 (Nat.lt_succ_self _) (by omega) (by rw [hi8] at hv; simp only [f_cl, ← hv])
      · have hi8 : i < 8 := z_lt (by omega) (by decide) c7
        refine z_aload_n F 1 dX1_replaceDebts_13 rfl rfl ?_
        refine z_iload_n F 2 dX1_replaceDebts_14 rfl rfl ?_
        refine z_callv (wn := [(k0, .inr (4, [.ref k1, .int v1, .int v2, .int v3])), (k1, .inl (g 0, 8, .inl (fun k => f_pos am k)))]) (wf := fun _ => [(k0, .inr (4, [.ref k1, .int v1, .int v2, .int v3])), (k1, .inl (g 0, 8, .inl (fun k => f_pos am k))), (q1, .inl (g 0, 64, .inl ((f_fgN am1 ac1 i 8).1))), (q5, .inl (g 0, 8, .inl ((f_fgN am1 ac1 i 8).2)))]) F (z_runV (st := []) F zNo_ok trivial (fun sz => c_X5_forgiveDebts l D g q0 q1 q2 q3 q4 q5 q6 am1 ac1 mc hc ne lo i (by omega) sz) (cwV 1 F.1.2.2.2.2 gX1_replaceDebts_X5_forgiveDebts rfl rfl rfl (by decide +kernel) ⟨Nat.le_of_ble_eq_true rfl, Nat.le_of_ble_eq_true rfl⟩) 4 rfl rfl rfl [2, 3] [4] rfl rfl (by decide) rfl rfl (Nat.le_of_ble_eq_true rfl) dX1_replaceDebts_15 ⟨Nat.le_of_ble_eq_true rfl, Nat.le_of_ble_eq_true rfl⟩) [2, 3] [0, 1] [0, 1, 2, 3] rfl rfl (by decide) (by decide) (by decide) (fun _ => rfl) (fun _ hw8 => ?_)
        clear hw8
        refine z_iinc (v := nI (i + 1)) (lv' := [(2, .int (nI (i + 1))), (0, .ref k0), (1, .ref q0)]) F dX1_replaceDebts_18 2 rfl (nI_1 i) (by decide) rfl ?_
        refine z_goto (tgt := 7) F dX1_replaceDebts_21 (by decide) ?_
        refine z_loc (lv' := [(0, .ref k0), (1, .ref q0), (2, .int (nI (i + 1)))]) [1, 2, 0] rfl ?_
        exact ih7 (i + 1) ((f_fgN am1 ac1 i 8).1) ((f_fgN am1 ac1 i 8).2) (by omega) (by omega) (by first | rfl | (simp only [f_faN, ← hv]))
  show zW p l e { frames := 4, cells := 0, slots := 0, locals := 88 } s m args below meth c 3 D A Q 0 0 [(k0, .inr (4, [.ref k1, .int v1, .int v2, .int v3])), (k1, .inl (g 0, 8, .inl op)), (q1, .inl (g 0, 64, .inl am)), (q5, .inl (g 0, 8, .inl ac))] [(0, .ref k0), (1, .ref q0)] [] 0
  refine z_aload_n F 0 dX1_replaceDebts_0 rfl rfl ?_
  refine z_aload_n F 1 dX1_replaceDebts_1 rfl rfl ?_
  refine z_callv (wn := [(k0, .inr (4, [.ref k1, .int v1, .int v2, .int v3])), (q1, .inl (g 0, 64, .inl am)), (q5, .inl (g 0, 8, .inl ac))]) (wf := fun _ => [(k0, .inr (4, [.ref k1, .int v1, .int v2, .int v3])), (k1, .inl (g 0, 8, .inl (fun k => f_pos am k))), (q1, .inl (g 0, 64, .inl am)), (q5, .inl (g 0, 8, .inl ac))]) F (z_runV (st := []) F zNo_ok trivial (fun sz => c_X1_openPositions l D g k0 k1 op v1 v2 v3 q0 q1 q2 q3 q4 q5 q6 am mc hc ne lo sz) (cwV 1 F.1.2.2.2.2 gX1_replaceDebts_X1_openPositions rfl rfl rfl (by decide +kernel) ⟨Nat.le_of_ble_eq_true rfl, Nat.le_of_ble_eq_true rfl⟩) 0 rfl rfl rfl [1] [0, 4, 2] rfl rfl (by decide) rfl rfl (Nat.le_of_ble_eq_true rfl) dX1_replaceDebts_2 ⟨Nat.le_of_ble_eq_true rfl, Nat.le_of_ble_eq_true rfl⟩) [1] [0, 2, 3] [0, 3, 1, 2] rfl rfl (by decide) (by decide) (by decide) (fun _ => rfl) (fun _ hw9 => ?_)
  clear hw9
  refine z_iconst (v := 0) F dX1_replaceDebts_5 (by decide) ?_
  refine z_istore_n (lv' := [(2, .int 0), (0, .ref k0), (1, .ref q0)]) F dX1_replaceDebts_6 rfl (by decide) rfl ?_
  refine z_loc (lv' := [(0, .ref k0), (1, .ref q0), (2, .int (nI 0))]) [1, 2, 0] rfl ?_
  exact L7 _ 0 am ac (Nat.lt_succ_self _) (by omega) (by first | rfl | (simp only [f_faN, ← hv]))
/-! PAYOUT -/
def f_mxN (rm : Nat → Int32) : Nat → Nat | 0 => 0 | k + 1 => if rm (k + 1) ≤ rm (f_mxN rm k) then f_mxN rm k else k + 1
theorem f_mxN_lt (rm : Nat → Int32) : ∀ k, k ≤ 7 → f_mxN rm k < 8 := by
  intro k
  induction k with
  | zero => intro _; exact (by decide : 0 < 8)
  | succ k ih =>
    intro hk
    have := ih (by omega)
    unfold f_mxN
    split <;> omega
def f_gvN (sh rm : Nat → Int32) : Nat → (Nat → Int32) × (Nat → Int32) | 0 => (sh, rm) | i + 1 => (upd (f_gvN sh rm i).1 (f_mxN (f_gvN sh rm i).2 7) ((f_gvN sh rm i).1 (f_mxN (f_gvN sh rm i).2 7) + 1), upd (f_gvN sh rm i).2 (f_mxN (f_gvN sh rm i).2 7) 0)
theorem z_pn {v : Int32} (h : 0 < v) : ¬ v = 0 := fun q => by rw [q] at h; exact absurd h (by decide)
def f_dvN (am : Nat → Int32) (d m : Int32) (x : Nat) (rm : Nat → Int32) : Nat → (Nat → Int32) × (Nat → Int32) × Int32
  | 0 => (fun _ => 0, rm, m)
  | i + 1 => (upd (f_dvN am d m x rm i).1 i (m * am (8 * x + i) / d), upd (f_dvN am d m x rm i).2.1 i (m * am (8 * x + i) - m * am (8 * x + i) / d * d), (f_dvN am d m x rm i).2.2 - upd (f_dvN am d m x rm i).1 i (m * am (8 * x + i) / d) i)
def f_div (am co ca : Nat → Int32) (hc : Int32) (x : Nat) (rm : Nat → Int32) : (Nat → Int32) × (Nat → Int32) :=
  if 0 < f_debit am x then f_gvN (f_dvN am (f_debit am x) (f_means co ca hc x) x rm 8).1 (f_dvN am (f_debit am x) (f_means co ca hc x) x rm 8).2.1 (f_dvN am (f_debit am x) (f_means co ca hc x) x rm 8).2.2.toNatClampNeg else (fun _ => 0, rm)
def f_stN (co sh : Nat → Int32) : Nat → Nat → Int32 | 0 => co | i + 1 => upd (f_stN co sh i) i (f_stN co sh i i + sh i)
set_option maxHeartbeats 4000000 in
set_option maxRecDepth 100000 in
theorem c_J7_fill_53178 (l : Launch) (D : va_G) (g : Nat → ClassId) (k1 : Nat) (n : Nat) (f : Nat → Int32) (v : Int32) (hn : n < 2147483648) (sz : Nat) : Met l yJ7_fill_53178 wsJ7_fill_53178 { frames := 0, cells := 0, slots := 0, locals := 0 } (zPc D (gT g) zNo [.ref k1, .int v] [(k1, .inl (g 0, n, .inl f))] [] sz) (zQv D [(k1, .inl (g 0, n, .inl f))] (fun (_ : Unit) => True) (fun _ => [(k1, .inl (g 0, n, .inl (fun _ => v)))]) sz) 0 0 (va_A [(k1, .inl (g 0, n, .inl f))] sz) := by
  refine z_met (y := yJ7_fill_53178) (cc := cJ7_fill_53178) (nL := 4) (rm := { frames := 0, cells := 0, slots := 0, locals := 0 }) (D := D) (tys := gT g) (wr := []) (P0 := zNo) (As := [.ref k1, .int v]) (ww := [(k1, .inl (g 0, n, .inl f))]) (Qc := zQv D [(k1, .inl (g 0, n, .inl f))] (fun (_ : Unit) => True) (fun _ => [(k1, .inl (g 0, n, .inl (fun _ => v)))])) (ret := none) (by decide) rfl (Nat.le_of_ble_eq_true rfl) ?_ sz
  intro p e s m args below meth c A Q hA hQ F E hr hlk hin
  have L5 : ∀ (N5_ : Nat) (i : Nat) (f1 : Nat → Int32) (hN5_ : n - i < N5_) (hi : i ≤ n) (hv : ∀ k, k < i → f1 k = v), zW p l e { frames := 0, cells := 0, slots := 0, locals := 0 } s m args below meth c 4 D A Q 0 0 [(k1, .inl (g 0, n, .inl f1))] [(0, .ref k1), (1, .int v), (2, .int (nI i)), (3, .int (nI n))] [] 5 := by
    intro N5_
    induction N5_ with
    | zero =>
      intro i f1 hN5_
      exact absurd hN5_ (Nat.not_lt_zero _)
    | succ N5_ ih5 =>
      intro i f1 hN5_ hi hv
      refine z_iload_n F 2 dJ7_fill_53178_5 rfl rfl ?_
      refine z_iload_n F 3 dJ7_fill_53178_6 rfl rfl ?_
      refine z_icmp_ge (tgt := 20) F dJ7_fill_53178_7 (by decide) (fun c1 => ?_) (fun c1 => ?_)
      · have hi8 : i = n := by have := z_ge (by omega) hn (show nI n ≤ nI i from c1); omega
        rw [hi8] at hv
        refine z_cext (f' := fun _ => v) (ws' := [(k1, .inl (g 0, n, .inl (fun _ => v)))]) 0 rfl (hv) rfl ?_
        exact z_vret F hA hQ hlk hr () (trivial) (rfl) dJ7_fill_53178_20
      · have hi8 : i < n := z_lt (by omega) hn c1
        refine z_aload_n F 0 dJ7_fill_53178_10 rfl rfl ?_
        refine z_iload_n F 2 dJ7_fill_53178_11 rfl rfl ?_
        refine z_iload_n F 1 dJ7_fill_53178_12 rfl rfl ?_
        refine z_iastN (j := i) (ws' := [(k1, .inl (g 0, n, .inl (upd f1 i v)))]) F 0 0 rfl rfl (hi8) (by assumption) rfl dJ7_fill_53178_13 ?_
        refine z_iinc (v := nI (i + 1)) (lv' := [(2, .int (nI (i + 1))), (0, .ref k1), (1, .int v), (3, .int (nI n))]) F dJ7_fill_53178_14 2 rfl (nI_1 i) (by decide) rfl ?_
        refine z_goto (tgt := 5) F dJ7_fill_53178_17 (by decide) ?_
        refine z_loc (lv' := [(0, .ref k1), (1, .int v), (2, .int (nI (i + 1))), (3, .int (nI n))]) [1, 2, 0, 3] rfl ?_
        exact ih5 (i + 1) (upd f1 i v) (by omega) (by omega) (z_up (f' := fun _ => v) hv rfl)
  show zW p l e { frames := 0, cells := 0, slots := 0, locals := 0 } s m args below meth c 4 D A Q 0 0 [(k1, .inl (g 0, n, .inl f))] [(0, .ref k1), (1, .int v)] [] 0
  refine z_iconst (v := 0) F dJ7_fill_53178_0 (by decide) ?_
  refine z_istore_n (lv' := [(2, .int 0), (0, .ref k1), (1, .int v)]) F dJ7_fill_53178_1 rfl (by decide) rfl ?_
  refine z_aload_n F 1 dJ7_fill_53178_2 rfl rfl ?_
  refine z_alen (v := nI n) F 0 0 rfl rfl rfl dJ7_fill_53178_3 ?_
  refine z_istore_n (lv' := [(3, .int (nI n)), (2, .int 0), (0, .ref k1), (1, .int v)]) F dJ7_fill_53178_4 rfl (by decide) rfl ?_
  refine z_loc (lv' := [(0, .ref k1), (1, .int v), (2, .int (nI 0)), (3, .int (nI n))]) [2, 3, 1, 0] rfl ?_
  exact L5 _ 0 f (Nat.lt_succ_self _) (by omega) (fun k hk => absurd hk (Nat.not_lt_zero k))
set_option maxHeartbeats 4000000 in
set_option maxRecDepth 100000 in
theorem c_X7_giveOneByOne (l : Launch) (D : va_G) (g : Nat → ClassId) (k0 : Nat) (k1 : Nat) (k2 : Nat) (sh : Nat → Int32) (rm : Nat → Int32) (v : Int32) (sz : Nat) : Met l yX7_giveOneByOne wsX7_giveOneByOne { frames := 0, cells := 0, slots := 0, locals := 0 } (zPc D (gT g) zNo [.ref k0, .int v] [(k1, .inl (g 0, 8, .inl sh)), (k2, .inl (g 0, 8, .inl rm))] [(k0, .inr (9, [.ref k1, .ref k2]))] sz) (zQv D [(k1, .inl (g 0, 8, .inl sh)), (k2, .inl (g 0, 8, .inl rm))] (fun (_ : Unit) => True) (fun _ => [(k1, .inl (g 0, 8, .inl ((f_gvN sh rm v.toNatClampNeg).1))), (k2, .inl (g 0, 8, .inl ((f_gvN sh rm v.toNatClampNeg).2)))]) sz) 0 0 (va_A [(k1, .inl (g 0, 8, .inl sh)), (k2, .inl (g 0, 8, .inl rm))] sz) := by
  refine z_met (y := yX7_giveOneByOne) (cc := cX7_giveOneByOne) (nL := 5) (rm := { frames := 0, cells := 0, slots := 0, locals := 0 }) (D := D) (tys := gT g) (wr := [(k0, .inr (9, [.ref k1, .ref k2]))]) (P0 := zNo) (As := [.ref k0, .int v]) (ww := [(k1, .inl (g 0, 8, .inl sh)), (k2, .inl (g 0, 8, .inl rm))]) (Qc := zQv D [(k1, .inl (g 0, 8, .inl sh)), (k2, .inl (g 0, 8, .inl rm))] (fun (_ : Unit) => True) (fun _ => [(k1, .inl (g 0, 8, .inl ((f_gvN sh rm v.toNatClampNeg).1))), (k2, .inl (g 0, 8, .inl ((f_gvN sh rm v.toNatClampNeg).2)))])) (ret := none) (by decide) rfl (Nat.le_of_ble_eq_true rfl) ?_ sz
  intro p e s m args below meth c A Q hA hQ F E hr hlk hin
  have L2 : ∀ (N2_ : Nat) (i : Nat) (sh1 : Nat → Int32) (rm1 : Nat → Int32) (hN2_ : v.toNatClampNeg - i < N2_) (hi : i ≤ v.toNatClampNeg) (hv : (sh1, rm1) = f_gvN sh rm i), zW p l e { frames := 0, cells := 0, slots := 0, locals := 0 } s m args below meth c 5 D A Q 0 0 [(k1, .inl (g 0, 8, .inl sh1)), (k2, .inl (g 0, 8, .inl rm1))] [(0, .ref k0), (1, .int v), (2, .int (nI i))] [] 2 := by
    intro N2_
    induction N2_ with
    | zero =>
      intro i sh1 rm1 hN2_
      exact absurd hN2_ (Nat.not_lt_zero _)
    | succ N2_ ih2 =>
      intro i sh1 rm1 hN2_ hi hv
      refine z_iload_n F 2 dX7_giveOneByOne_2 rfl rfl ?_
      refine z_iload_n F 1 dX7_giveOneByOne_3 rfl rfl ?_
      refine z_icmp_ge (tgt := 67) F dX7_giveOneByOne_4 (by decide) (fun c1 => ?_) (fun c1 => ?_)
      · have hi8 : i = v.toNatClampNeg := z_cntT hi c1
        exact z_vret F hA hQ hlk hr () (trivial) (by rw [hi8] at hv; rw [← hv]) dX7_giveOneByOne_67
      · have hi8 : i < v.toNatClampNeg := z_cntF hi c1
        refine z_iconst (v := 0) F dX7_giveOneByOne_7 (by decide) ?_
        refine z_istore_n (lv' := [(3, .int 0), (0, .ref k0), (1, .int v), (2, .int (nI i))]) F dX7_giveOneByOne_8 rfl (by decide) rfl ?_
        refine z_iconst (v := 1) F dX7_giveOneByOne_9 (by decide) ?_
        refine z_istore (lv' := [(4, .int 1), (3, .int 0), (0, .ref k0), (1, .int v), (2, .int (nI i))]) F dX7_giveOneByOne_10 (by decide) rfl ?_
        have L12 : ∀ (N12_ : Nat) (j : Nat) (x : Nat) (hN12_ : 8 - j < N12_) (hj : 1 ≤ j ∧ j ≤ 8) (hx : x = f_mxN rm1 (j - 1)), zW p l e { frames := 0, cells := 0, slots := 0, locals := 0 } s m args below meth c 5 D A Q 0 0 [(k1, .inl (g 0, 8, .inl sh1)), (k2, .inl (g 0, 8, .inl rm1))] [(0, .ref k0), (1, .int v), (2, .int (nI i)), (3, .int (nI x)), (4, .int (nI j))] [] 12 := by
          intro N12_
          induction N12_ with
          | zero =>
            intro j x hN12_
            exact absurd hN12_ (Nat.not_lt_zero _)
          | succ N12_ ih12 =>
            intro j x hN12_ hj hx
            refine z_iload F 4 dX7_giveOneByOne_12 rfl ?_
            refine z_bipush (v := 8) F dX7_giveOneByOne_14 (by decide) ?_
            refine z_icmp_ge (tgt := 44) F dX7_giveOneByOne_16 (by decide) (fun c2 => ?_) (fun c2 => ?_)
            · have hj8 : j = 8 := by have := z_ge (by omega) (by decide) (show nI 8 ≤ nI j from c2); omega
              have hx7 : x = f_mxN rm1 7 := by subst hj8; exact hx
              have hxm : x < 8 := by rw [hx7]; exact f_mxN_lt rm1 7 (Nat.le_refl _)
              refine z_aload_n F 0 dX7_giveOneByOne_44 rfl rfl ?_
              refine z_get (C := RX7) (T := TX7) (N := 2) F (fun w h => List.mem_cons_of_mem _ (List.mem_append_left _ (List.mem_append_right _ (h)))) 2 rfl rfl 0 (by decide) (List.mem_cons_of_mem _ (List.mem_append_left _ (List.mem_append_left _ (List.mem_of_getElem? (i := 1) rfl)))) rfl rfl dX7_giveOneByOne_45 ?_
              refine z_iload_n F 3 dX7_giveOneByOne_48 rfl rfl ?_
              refine z_dup2 F dX7_giveOneByOne_49 rfl rfl ?_
              refine z_ialdN (j := x) F 0 0 rfl rfl (by omega) (by decide) dX7_giveOneByOne_50 ?_
              refine z_iconst (v := 1) F dX7_giveOneByOne_51 (by decide) ?_
              refine z_iadd F dX7_giveOneByOne_52 ?_
              refine z_iastN (j := x) (ws' := [(k1, .inl (g 0, 8, .inl (upd sh1 x ((sh1 x) + 1)))), (k2, .inl (g 0, 8, .inl rm1))]) F 0 0 rfl rfl (by omega) (by decide) rfl dX7_giveOneByOne_53 ?_
              refine z_aload_n F 0 dX7_giveOneByOne_54 rfl rfl ?_
              refine z_get (C := RX7) (T := TX7) (N := 2) F (fun w h => List.mem_cons_of_mem _ (List.mem_append_left _ (List.mem_append_right _ (h)))) 2 rfl rfl 1 (by decide) (List.mem_cons_of_mem _ (List.mem_append_left _ (List.mem_append_left _ (List.mem_of_getElem? (i := 0) rfl)))) rfl rfl dX7_giveOneByOne_55 ?_
              refine z_iload_n F 3 dX7_giveOneByOne_58 rfl rfl ?_
              refine z_iconst (v := 0) F dX7_giveOneByOne_59 (by decide) ?_
              refine z_iastN (j := x) (ws' := [(k1, .inl (g 0, 8, .inl (upd sh1 x ((sh1 x) + 1)))), (k2, .inl (g 0, 8, .inl (upd rm1 x 0)))]) F 1 0 rfl rfl (by omega) (by decide) rfl dX7_giveOneByOne_60 ?_
              refine z_iinc (v := nI (i + 1)) (lv' := [(2, .int (nI (i + 1))), (0, .ref k0), (1, .int v), (3, .int (nI x)), (4, .int (nI j))]) F dX7_giveOneByOne_61 2 rfl (nI_1 i) (by decide) rfl ?_
              refine z_goto (tgt := 2) F dX7_giveOneByOne_64 (by decide) ?_
              refine z_loc (lv' := [(0, .ref k0), (1, .int v), (2, .int (nI (i + 1)))]) [1, 2, 0] rfl ?_
              exact ih2 (i + 1) (upd sh1 x ((sh1 x) + 1)) (upd rm1 x 0) (by omega) (by omega) (by simp only [f_gvN, ← hv, ← hx7])
            · have hj8 : j < 8 := z_lt (by omega) (by decide) c2
              have hxm : x < 8 := by rw [hx]; exact f_mxN_lt rm1 (j - 1) (by omega)
              refine z_aload_n F 0 dX7_giveOneByOne_19 rfl rfl ?_
              refine z_get (C := RX7) (T := TX7) (N := 2) F (fun w h => List.mem_cons_of_mem _ (List.mem_append_left _ (List.mem_append_right _ (h)))) 2 rfl rfl 1 (by decide) (List.mem_cons_of_mem _ (List.mem_append_left _ (List.mem_append_left _ (List.mem_of_getElem? (i := 0) rfl)))) rfl rfl dX7_giveOneByOne_20 ?_
              refine z_iload F 4 dX7_giveOneByOne_23 rfl ?_
              refine z_ialdN (j := j) F 1 0 rfl rfl (by omega) (by decide) dX7_giveOneByOne_25 ?_
              refine z_aload_n F 0 dX7_giveOneByOne_26 rfl rfl ?_
              refine z_get (C := RX7) (T := TX7) (N := 2) F (fun w h => List.mem_cons_of_mem _ (List.mem_append_left _ (List.mem_append_right _ (h)))) 2 rfl rfl 1 (by decide) (List.mem_cons_of_mem _ (List.mem_append_left _ (List.mem_append_left _ (List.mem_of_getElem? (i := 0) rfl)))) rfl rfl dX7_giveOneByOne_27 ?_
              refine z_iload_n F 3 dX7_giveOneByOne_30 rfl rfl ?_
              refine z_ialdN (j := x) F 1 0 rfl rfl (by omega) (by decide) dX7_giveOneByOne_31 ?_
              refine z_icmp_le (tgt := 38) F dX7_giveOneByOne_32 (by decide) (fun c3 => ?_) (fun c3 => ?_)
              · refine z_iinc (v := nI (j + 1)) (lv' := [(4, .int (nI (j + 1))), (0, .ref k0), (1, .int v), (2, .int (nI i)), (3, .int (nI x))]) F dX7_giveOneByOne_38 4 rfl (nI_1 j) (by decide) rfl ?_
                refine z_goto (tgt := 12) F dX7_giveOneByOne_41 (by decide) ?_
                refine z_loc (lv' := [(0, .ref k0), (1, .int v), (2, .int (nI i)), (3, .int (nI x)), (4, .int (nI (j + 1)))]) [1, 2, 3, 4, 0] rfl ?_
                exact ih12 (j + 1) x (by omega) (by omega) (by first | rfl | (rw [show j + 1 - 1 = (j - 1) + 1 by omega]; simp only [f_mxN, ← hx, show j - 1 + 1 = j by omega, if_pos c3]))
              · refine z_iload F 4 dX7_giveOneByOne_35 rfl ?_
                refine z_istore_n (lv' := [(3, .int (nI j)), (0, .ref k0), (1, .int v), (2, .int (nI i)), (4, .int (nI j))]) F dX7_giveOneByOne_37 rfl (by decide) rfl ?_
                refine z_iinc (v := nI (j + 1)) (lv' := [(4, .int (nI (j + 1))), (3, .int (nI j)), (0, .ref k0), (1, .int v), (2, .int (nI i))]) F dX7_giveOneByOne_38 4 rfl (nI_1 j) (by decide) rfl ?_
                refine z_goto (tgt := 12) F dX7_giveOneByOne_41 (by decide) ?_
                refine z_loc (lv' := [(0, .ref k0), (1, .int v), (2, .int (nI i)), (3, .int (nI j)), (4, .int (nI (j + 1)))]) [2, 3, 4, 1, 0] rfl ?_
                exact ih12 (j + 1) j (by omega) (by omega) (by first | rfl | (rw [show j + 1 - 1 = (j - 1) + 1 by omega]; simp only [f_mxN, ← hx, show j - 1 + 1 = j by omega, if_neg c3]))
        refine z_loc (lv' := [(0, .ref k0), (1, .int v), (2, .int (nI i)), (3, .int (nI 0)), (4, .int (nI 1))]) [2, 3, 4, 1, 0] rfl ?_
        exact L12 _ 1 0 (Nat.lt_succ_self _) (by omega) (by first | rfl | (rw [show j + 1 - 1 = (j - 1) + 1 by omega]; simp only [f_mxN, ← hx, show j - 1 + 1 = j by omega]))
  show zW p l e { frames := 0, cells := 0, slots := 0, locals := 0 } s m args below meth c 5 D A Q 0 0 [(k1, .inl (g 0, 8, .inl sh)), (k2, .inl (g 0, 8, .inl rm))] [(0, .ref k0), (1, .int v)] [] 0
  refine z_iconst (v := 0) F dX7_giveOneByOne_0 (by decide) ?_
  refine z_istore_n (lv' := [(2, .int 0), (0, .ref k0), (1, .int v)]) F dX7_giveOneByOne_1 rfl (by decide) rfl ?_
  refine z_loc (lv' := [(0, .ref k0), (1, .int v), (2, .int (nI 0))]) [1, 2, 0] rfl ?_
  exact L2 _ 0 sh rm (Nat.lt_succ_self _) (by omega) rfl
set_option maxHeartbeats 4000000 in
set_option maxRecDepth 100000 in
theorem c_X7_divide (l : Launch) (D : va_G) (g : Nat → ClassId) (k0 : Nat) (k1 : Nat) (k2 : Nat) (sh : Nat → Int32) (rm : Nat → Int32) (q0 : Nat) (q1 : Nat) (q2 : Nat) (q3 : Nat) (q4 : Nat) (q5 : Nat) (q6 : Nat) (am : Nat → Int32) (co : Nat → Int32) (ca : Nat → Int32) (mc : Nat) (hc : Int32) (ne : Int32) (lo : Int32) (x : Nat) (hx : x < 8) (sz : Nat) : Met l yX7_divide wsX7_divide { frames := 2, cells := 0, slots := 0, locals := 45 } (zPc D (gT g) zNo [.ref k0, .ref q0, .int (nI x)] [(k1, .inl (g 0, 8, .inl sh)), (k2, .inl (g 0, 8, .inl rm))] [(k0, .inr (9, [.ref k1, .ref k2])), (q0, .inr (7, [.ref q1, .ref q2, .ref q3, .ref q4, .ref q5, .ref q6, .int (nI mc), .int hc, .int ne, .int lo])), (q1, .inl (g 0, 64, .inl am)), (q2, .inl (g 0, 8, .inl co)), (q3, .inl (g 0, 8, .inl ca))] sz) (zQv D [(k1, .inl (g 0, 8, .inl sh)), (k2, .inl (g 0, 8, .inl rm))] (fun (_ : Unit) => True) (fun _ => [(k1, .inl (g 0, 8, .inl ((f_div am co ca hc x rm).1))), (k2, .inl (g 0, 8, .inl ((f_div am co ca hc x rm).2)))]) sz) 0 0 (va_A [(k1, .inl (g 0, 8, .inl sh)), (k2, .inl (g 0, 8, .inl rm))] sz) := by
  refine z_met (y := yX7_divide) (cc := cX7_divide) (nL := 8) (rm := { frames := 2, cells := 0, slots := 0, locals := 45 }) (D := D) (tys := gT g) (wr := [(k0, .inr (9, [.ref k1, .ref k2])), (q0, .inr (7, [.ref q1, .ref q2, .ref q3, .ref q4, .ref q5, .ref q6, .int (nI mc), .int hc, .int ne, .int lo])), (q1, .inl (g 0, 64, .inl am)), (q2, .inl (g 0, 8, .inl co)), (q3, .inl (g 0, 8, .inl ca))]) (P0 := zNo) (As := [.ref k0, .ref q0, .int (nI x)]) (ww := [(k1, .inl (g 0, 8, .inl sh)), (k2, .inl (g 0, 8, .inl rm))]) (Qc := zQv D [(k1, .inl (g 0, 8, .inl sh)), (k2, .inl (g 0, 8, .inl rm))] (fun (_ : Unit) => True) (fun _ => [(k1, .inl (g 0, 8, .inl ((f_div am co ca hc x rm).1))), (k2, .inl (g 0, 8, .inl ((f_div am co ca hc x rm).2)))])) (ret := none) (by decide) rfl (Nat.le_of_ble_eq_true rfl) ?_ sz
  intro p e s m args below meth c A Q hA hQ F E hr hlk hin
  show zW p l e { frames := 2, cells := 0, slots := 0, locals := 45 } s m args below meth c 8 D A Q 0 0 [(k1, .inl (g 0, 8, .inl sh)), (k2, .inl (g 0, 8, .inl rm))] [(0, .ref k0), (1, .ref q0), (2, .int (nI x))] [] 0
  refine z_aload_n F 0 dX7_divide_0 rfl rfl ?_
  refine z_get (C := RX7) (T := TX7) (N := 2) F (fun w h => List.mem_cons_of_mem _ (List.mem_append_left _ (List.mem_append_left _ (List.mem_append_left _ (List.mem_append_right _ (h)))))) 2 rfl rfl 0 (by decide) (List.mem_cons_of_mem _ (List.mem_append_left _ (List.mem_append_left _ (List.mem_append_left _ (List.mem_append_left _ (List.mem_append_left _ (List.mem_of_getElem? (i := 0) rfl))))))) rfl rfl dX7_divide_1 ?_
  refine z_iconst (v := 0) F dX7_divide_4 (by decide) ?_
  refine z_callv (wn := [(k2, .inl (g 0, 8, .inl rm))]) (wf := fun _ => [(k1, .inl (g 0, 8, .inl (fun _ => 0))), (k2, .inl (g 0, 8, .inl rm))]) F (z_runS (st := []) F zNo_ok trivial (fun sz => c_J7_fill_53178 l D g k1 8 sh 0 (by omega) sz) (va_cwS 2 F.1.2.2.2.2 gX7_divide_J7_fill_53178 rfl rfl rfl (by decide +kernel) ⟨Nat.le_of_ble_eq_true rfl, Nat.le_of_ble_eq_true rfl⟩) [0] [] rfl rfl (by decide) rfl rfl (Nat.le_of_ble_eq_true rfl) dX7_divide_5 ⟨Nat.le_of_ble_eq_true rfl, Nat.le_of_ble_eq_true rfl⟩) [0] [1] [1, 0] rfl rfl (by decide) (by decide) (by decide) (fun _ => rfl) (fun _ hw1 => ?_)
  clear hw1
  refine z_aload_n F 1 dX7_divide_8 rfl rfl ?_
  refine z_iload_n F 2 dX7_divide_9 rfl rfl ?_
  refine z_calli0 F (z_runV (st := []) F zNo_ok trivial (fun sz => c_X5_debitOf l D g q0 q1 q2 q3 q4 q5 q6 am mc hc ne lo x (by omega) sz) (cwV 1 F.1.2.2.2.2 gX7_divide_X5_debitOf rfl rfl rfl (by decide +kernel) ⟨Nat.le_of_ble_eq_true rfl, Nat.le_of_ble_eq_true rfl⟩) 3 rfl rfl rfl [] [3, 4] rfl rfl (by decide) rfl rfl (Nat.le_of_ble_eq_true rfl) dX7_divide_10 ⟨Nat.le_of_ble_eq_true rfl, Nat.le_of_ble_eq_true rfl⟩) (fun r3 _ hw2 => ?_)
  subst hw2
  refine z_istore_n (lv' := [(3, .int (f_debit am x)), (0, .ref k0), (1, .ref q0), (2, .int (nI x))]) F dX7_divide_13 rfl (by decide) rfl ?_
  refine z_iload_n F 0 dX7_divide_14 rfl rfl ?_
  refine z_if_gt (tgt := 19) F dX7_divide_15 (by decide) (fun c4 => ?_) (fun c4 => ?_)
  · have hd0 : ¬ f_debit am x = 0 := z_pn c4
    have hd := c4
    refine z_aload_n F 2 dX7_divide_19 rfl rfl ?_
    refine z_iload_n F 3 dX7_divide_20 rfl rfl ?_
    refine z_calli0 F (z_runV (st := []) F zNo_ok trivial (fun sz => c_X5_meansOf l D g q0 q1 q2 q3 q4 q5 q6 co ca mc hc ne lo x (by omega) sz) (cwV 1 F.1.2.2.2.2 gX7_divide_X5_meansOf rfl rfl rfl (by decide +kernel) ⟨Nat.le_of_ble_eq_true rfl, Nat.le_of_ble_eq_true rfl⟩) 3 rfl rfl rfl [] [3, 5, 6] rfl rfl (by decide) rfl rfl (Nat.le_of_ble_eq_true rfl) dX7_divide_21 ⟨Nat.le_of_ble_eq_true rfl, Nat.le_of_ble_eq_true rfl⟩) (fun r6 _ hw5 => ?_)
    subst hw5
    refine z_istore (lv' := [(4, .int (f_means co ca hc x)), (3, .int (f_debit am x)), (0, .ref k0), (1, .ref q0), (2, .int (nI x))]) F dX7_divide_24 (by decide) rfl ?_
    refine z_iload F 0 dX7_divide_26 rfl ?_
    refine z_istore (lv' := [(5, .int (f_means co ca hc x)), (4, .int (f_means co ca hc x)), (3, .int (f_debit am x)), (0, .ref k0), (1, .ref q0), (2, .int (nI x))]) F dX7_divide_28 (by decide) rfl ?_
    refine z_iconst (v := 0) F dX7_divide_30 (by decide) ?_
    refine z_istore (lv' := [(6, .int 0), (5, .int (f_means co ca hc x)), (4, .int (f_means co ca hc x)), (3, .int (f_debit am x)), (0, .ref k0), (1, .ref q0), (2, .int (nI x))]) F dX7_divide_31 (by decide) rfl ?_
    have L33 : ∀ (N33_ : Nat) (i : Nat) (sh1 : Nat → Int32) (rm1 : Nat → Int32) (w : Int32) (hN33_ : 8 - i < N33_) (hi : i ≤ 8) (hv : (sh1, rm1, w) = f_dvN am (f_debit am x) (f_means co ca hc x) x rm i), zW p l e { frames := 2, cells := 0, slots := 0, locals := 45 } s m args below meth c 8 D A Q 0 0 [(k1, .inl (g 0, 8, .inl sh1)), (k2, .inl (g 0, 8, .inl rm1))] [(0, .ref k0), (1, .ref q0), (2, .int (nI x)), (3, .int (f_debit am x)), (4, .int (f_means co ca hc x)), (5, .int w), (6, .int (nI i))] [] 33 := by
      intro N33_
      induction N33_ with
      | zero =>
        intro i sh1 rm1 w hN33_
        exact absurd hN33_ (Nat.not_lt_zero _)
      | succ N33_ ih33 =>
        intro i sh1 rm1 w hN33_ hi hv
        refine z_iload F 6 dX7_divide_33 rfl ?_
        refine z_bipush (v := 8) F dX7_divide_35 (by decide) ?_
        refine z_icmp_ge (tgt := 92) F dX7_divide_37 (by decide) (fun c7 => ?_) (fun c7 => ?_)
        · have hi8 : i = 8 := by have := z_ge (by omega) (by decide) (show nI 8 ≤ nI i from c7); omega
          refine z_aload_n F 0 dX7_divide_92 rfl rfl ?_
          refine z_iload F 5 dX7_divide_93 rfl ?_
          refine z_callv (wn := []) (wf := fun _ => [(k1, .inl (g 0, 8, .inl ((f_gvN sh1 rm1 w.toNatClampNeg).1))), (k2, .inl (g 0, 8, .inl ((f_gvN sh1 rm1 w.toNatClampNeg).2)))]) F (z_runV (st := []) F zNo_ok trivial (fun sz => c_X7_giveOneByOne l D g k0 k1 k2 sh1 rm1 w sz) (cwV 1 F.1.2.2.2.2 gX7_divide_X7_giveOneByOne rfl rfl rfl (by decide +kernel) ⟨Nat.le_of_ble_eq_true rfl, Nat.le_of_ble_eq_true rfl⟩) 2 rfl rfl rfl [0, 1] [2] rfl rfl (by decide) rfl rfl (Nat.le_of_ble_eq_true rfl) dX7_divide_95 ⟨Nat.le_of_ble_eq_true rfl, Nat.le_of_ble_eq_true rfl⟩) [0, 1] [] [0, 1] rfl rfl (by decide) (by decide) (by decide) (fun _ => rfl) (fun _ hw8 => ?_)
          clear hw8
          exact z_vret F hA hQ hlk hr () (trivial) (by rw [hi8] at hv; simp only [f_div, if_pos hd, ← hv]) dX7_divide_98
        · have hi8 : i < 8 := z_lt (by omega) (by decide) c7
          refine z_iload F 4 dX7_divide_40 rfl ?_
          refine z_aload_n F 1 dX7_divide_42 rfl rfl ?_
          refine z_iload_n F 2 dX7_divide_43 rfl rfl ?_
          refine z_iload F 6 dX7_divide_44 rfl ?_
          refine z_calli0 F (z_runV (st := [.int (f_means co ca hc x)]) F zNo_ok trivial (fun sz => c_X5_amountOwed l D g q0 q1 q2 q3 q4 q5 q6 am mc hc ne lo x i (by omega) (by omega) sz) (cwV 2 F.1.2.2.2.2 gX7_divide_X5_amountOwed rfl rfl rfl (by decide +kernel) ⟨Nat.le_of_ble_eq_true rfl, Nat.le_of_ble_eq_true rfl⟩) 3 rfl rfl rfl [] [3, 4] rfl rfl (by decide) rfl rfl (Nat.le_of_ble_eq_true rfl) dX7_divide_46 ⟨Nat.le_of_ble_eq_true rfl, Nat.le_of_ble_eq_true rfl⟩) (fun r10 _ hw9 => ?_)
          subst hw9
          refine z_imul F dX7_divide_49 ?_
          refine z_istore (lv' := [(7, .int ((f_means co ca hc x) * (am (8 * x + i)))), (0, .ref k0), (1, .ref q0), (2, .int (nI x)), (3, .int (f_debit am x)), (4, .int (f_means co ca hc x)), (5, .int w), (6, .int (nI i))]) F dX7_divide_50 (by decide) rfl ?_
          refine z_aload_n F 1 dX7_divide_52 rfl rfl ?_
          refine z_get (C := RX7) (T := TX7) (N := 2) F (fun w h => List.mem_cons_of_mem _ (List.mem_append_left _ (List.mem_append_left _ (List.mem_append_left _ (List.mem_append_right _ (h)))))) 2 rfl rfl 0 (by decide) (List.mem_cons_of_mem _ (List.mem_append_left _ (List.mem_append_left _ (List.mem_append_left _ (List.mem_append_left _ (List.mem_append_left _ (List.mem_of_getElem? (i := 0) rfl))))))) rfl rfl dX7_divide_53 ?_
          refine z_iload F 7 dX7_divide_56 rfl ?_
          refine z_iload F 0 dX7_divide_58 rfl ?_
          refine z_iload_n F 4 dX7_divide_60 rfl rfl ?_
          refine z_idiv F dX7_divide_61 (hd0) ?_
          refine z_iastN (j := i) (ws' := [(k1, .inl (g 0, 8, .inl (upd sh1 i (((f_means co ca hc x) * (am (8 * x + i))) / (f_debit am x))))), (k2, .inl (g 0, 8, .inl rm1))]) F 0 0 rfl rfl (by omega) (by decide) rfl dX7_divide_62 ?_
          refine z_aload_n F 1 dX7_divide_63 rfl rfl ?_
          refine z_get (C := RX7) (T := TX7) (N := 2) F (fun w h => List.mem_cons_of_mem _ (List.mem_append_left _ (List.mem_append_left _ (List.mem_append_left _ (List.mem_append_right _ (h)))))) 2 rfl rfl 1 (by decide) (List.mem_cons_of_mem _ (List.mem_append_left _ (List.mem_append_left _ (List.mem_append_left _ (List.mem_append_left _ (List.mem_append_left _ (List.mem_of_getElem? (i := 1) rfl))))))) rfl rfl dX7_divide_64 ?_
          refine z_iload F 7 dX7_divide_67 rfl ?_
          refine z_iload F 0 dX7_divide_69 rfl ?_
          refine z_iload_n F 4 dX7_divide_71 rfl rfl ?_
          refine z_irem F dX7_divide_72 (hd0) ?_
          refine z_iastN (j := i) (ws' := [(k1, .inl (g 0, 8, .inl (upd sh1 i (((f_means co ca hc x) * (am (8 * x + i))) / (f_debit am x))))), (k2, .inl (g 0, 8, .inl (upd rm1 i (((f_means co ca hc x) * (am (8 * x + i))) - ((f_means co ca hc x) * (am (8 * x + i))) / (f_debit am x) * (f_debit am x)))))]) F 1 0 rfl rfl (by omega) (by decide) rfl dX7_divide_73 ?_
          refine z_iload F 6 dX7_divide_74 rfl ?_
          refine z_aload_n F 1 dX7_divide_76 rfl rfl ?_
          refine z_get (C := RX7) (T := TX7) (N := 2) F (fun w h => List.mem_cons_of_mem _ (List.mem_append_left _ (List.mem_append_left _ (List.mem_append_left _ (List.mem_append_right _ (h)))))) 2 rfl rfl 0 (by decide) (List.mem_cons_of_mem _ (List.mem_append_left _ (List.mem_append_left _ (List.mem_append_left _ (List.mem_append_left _ (List.mem_append_left _ (List.mem_of_getElem? (i := 0) rfl))))))) rfl rfl dX7_divide_77 ?_
          refine z_iload F 7 dX7_divide_80 rfl ?_
          refine z_ialdN (j := i) F 0 0 rfl rfl (by omega) (by decide) dX7_divide_82 ?_
          refine z_isub F dX7_divide_83 ?_
          refine z_istore (lv' := [(5, .int (w - ((upd sh1 i (((f_means co ca hc x) * (am (8 * x + i))) / (f_debit am x))) i))), (7, .int ((f_means co ca hc x) * (am (8 * x + i)))), (0, .ref k0), (1, .ref q0), (2, .int (nI x)), (3, .int (f_debit am x)), (4, .int (f_means co ca hc x)), (6, .int (nI i))]) F dX7_divide_84 (by decide) rfl ?_
          refine z_iinc (v := nI (i + 1)) (lv' := [(6, .int (nI (i + 1))), (5, .int (w - ((upd sh1 i (((f_means co ca hc x) * (am (8 * x + i))) / (f_debit am x))) i))), (7, .int ((f_means co ca hc x) * (am (8 * x + i)))), (0, .ref k0), (1, .ref q0), (2, .int (nI x)), (3, .int (f_debit am x)), (4, .int (f_means co ca hc x))]) F dX7_divide_86 7 rfl (nI_1 i) (by decide) rfl ?_
          refine z_goto (tgt := 33) F dX7_divide_89 (by decide) ?_
          refine z_loc (lv' := [(0, .ref k0), (1, .ref q0), (2, .int (nI x)), (3, .int (f_debit am x)), (4, .int (f_means co ca hc x)), (5, .int (w - ((upd sh1 i (((f_means co ca hc x) * (am (8 * x + i))) / (f_debit am x))) i))), (6, .int (nI (i + 1)))]) [3, 4, 5, 6, 7, 1, 0] rfl ?_
          exact ih33 (i + 1) (upd sh1 i (((f_means co ca hc x) * (am (8 * x + i))) / (f_debit am x))) (upd rm1 i (((f_means co ca hc x) * (am (8 * x + i))) - ((f_means co ca hc x) * (am (8 * x + i))) / (f_debit am x) * (f_debit am x))) (w - ((upd sh1 i (((f_means co ca hc x) * (am (8 * x + i))) / (f_debit am x))) i)) (by omega) (by omega) (by first | rfl | (simp only [f_dvN, ← hv]))
    refine z_loc (lv' := [(0, .ref k0), (1, .ref q0), (2, .int (nI x)), (3, .int (f_debit am x)), (4, .int (f_means co ca hc x)), (5, .int (f_means co ca hc x)), (6, .int (nI 0))]) [4, 5, 6, 3, 2, 1, 0] rfl ?_
    exact L33 _ 0 (fun _ => 0) rm (f_means co ca hc x) (Nat.lt_succ_self _) (by omega) (by first | rfl | (simp only [f_dvN, ← hv]))
  · have hd := c4
    exact z_vret F hA hQ hlk hr () (trivial) (by simp only [f_div, if_neg hd]) dX7_divide_18
set_option maxHeartbeats 4000000 in
set_option maxRecDepth 100000 in
theorem c_X7_settle (l : Launch) (D : va_G) (g : Nat → ClassId) (er : Nat → Nat) (k0 : Nat) (k1 : Nat) (k2 : Nat) (sh : Nat → Int32) (rm : Nat → Int32) (q0 : Nat) (q1 : Nat) (q2 : Nat) (q3 : Nat) (q4 : Nat) (q5 : Nat) (q6 : Nat) (am : Nat → Int32) (co : Nat → Int32) (ca : Nat → Int32) (ac : Nat → Int32) (de : Nat → Int32) (mc : Nat) (hc : Int32) (ne : Int32) (lo : Int32) (x : Nat) (hx : x < 8) (sz : Nat) : Met l yX7_settle wsX7_settle { frames := 3, cells := 0, slots := 0, locals := 72 } (zPc D (gT g) (zEnv er) [.ref k0, .ref q0, .int (nI x)] [(k1, .inl (g 0, 8, .inl sh)), (k2, .inl (g 0, 8, .inl rm)), (q0, .inr (7, [.ref q1, .ref q2, .ref q3, .ref q4, .ref q5, .ref q6, .int (nI mc), .int hc, .int ne, .int lo])), (q1, .inl (g 0, 64, .inl am)), (q2, .inl (g 0, 8, .inl co)), (q3, .inl (g 0, 8, .inl ca)), (q5, .inl (g 0, 8, .inl ac)), (q6, .inl (g 1, 8, .inl de))] [(k0, .inr (9, [.ref k1, .ref k2]))] sz) (zQi D [(k1, .inl (g 0, 8, .inl sh)), (k2, .inl (g 0, 8, .inl rm)), (q0, .inr (7, [.ref q1, .ref q2, .ref q3, .ref q4, .ref q5, .ref q6, .int (nI mc), .int hc, .int ne, .int lo])), (q1, .inl (g 0, 64, .inl am)), (q2, .inl (g 0, 8, .inl co)), (q3, .inl (g 0, 8, .inl ca)), (q5, .inl (g 0, 8, .inl ac)), (q6, .inl (g 1, 8, .inl de))] (fun (r : Int32) (_ : Unit) => r = f_loss am co ca hc x) (fun _ => [(k1, .inl (g 0, 8, .inl ((f_div am co ca hc x rm).1))), (k2, .inl (g 0, 8, .inl ((f_div am co ca hc x rm).2))), (q0, .inr (7, [.ref q1, .ref q2, .ref q3, .ref q4, .ref q5, .ref q6, .int (nI mc), .int hc, .int ne, .int (lo + f_loss am co ca hc x)])), (q1, .inl (g 0, 64, .inl ((f_fgN am ac x 8).1))), (q2, .inl (g 0, 8, .inl (upd (f_stN co (f_div am co ca hc x rm).1 8) x 0))), (q3, .inl (g 0, 8, .inl (upd ca x 0))), (q5, .inl (g 0, 8, .inl ((f_fgN am ac x 8).2))), (q6, .inl (g 1, 8, .inl (upd de x (vp_nar .boolean 1))))]) sz) 0 0 (va_A [(k1, .inl (g 0, 8, .inl sh)), (k2, .inl (g 0, 8, .inl rm)), (q0, .inr (7, [.ref q1, .ref q2, .ref q3, .ref q4, .ref q5, .ref q6, .int (nI mc), .int hc, .int ne, .int lo])), (q1, .inl (g 0, 64, .inl am)), (q2, .inl (g 0, 8, .inl co)), (q3, .inl (g 0, 8, .inl ca)), (q5, .inl (g 0, 8, .inl ac)), (q6, .inl (g 1, 8, .inl de))] sz) := by
  refine z_met (y := yX7_settle) (cc := cX7_settle) (nL := 5) (rm := { frames := 3, cells := 0, slots := 0, locals := 72 }) (D := D) (tys := gT g) (wr := [(k0, .inr (9, [.ref k1, .ref k2]))]) (P0 := zEnv er) (As := [.ref k0, .ref q0, .int (nI x)]) (ww := [(k1, .inl (g 0, 8, .inl sh)), (k2, .inl (g 0, 8, .inl rm)), (q0, .inr (7, [.ref q1, .ref q2, .ref q3, .ref q4, .ref q5, .ref q6, .int (nI mc), .int hc, .int ne, .int lo])), (q1, .inl (g 0, 64, .inl am)), (q2, .inl (g 0, 8, .inl co)), (q3, .inl (g 0, 8, .inl ca)), (q5, .inl (g 0, 8, .inl ac)), (q6, .inl (g 1, 8, .inl de))]) (Qc := zQi D [(k1, .inl (g 0, 8, .inl sh)), (k2, .inl (g 0, 8, .inl rm)), (q0, .inr (7, [.ref q1, .ref q2, .ref q3, .ref q4, .ref q5, .ref q6, .int (nI mc), .int hc, .int ne, .int lo])), (q1, .inl (g 0, 64, .inl am)), (q2, .inl (g 0, 8, .inl co)), (q3, .inl (g 0, 8, .inl ca)), (q5, .inl (g 0, 8, .inl ac)), (q6, .inl (g 1, 8, .inl de))] (fun (r : Int32) (_ : Unit) => r = f_loss am co ca hc x) (fun _ => [(k1, .inl (g 0, 8, .inl ((f_div am co ca hc x rm).1))), (k2, .inl (g 0, 8, .inl ((f_div am co ca hc x rm).2))), (q0, .inr (7, [.ref q1, .ref q2, .ref q3, .ref q4, .ref q5, .ref q6, .int (nI mc), .int hc, .int ne, .int (lo + f_loss am co ca hc x)])), (q1, .inl (g 0, 64, .inl ((f_fgN am ac x 8).1))), (q2, .inl (g 0, 8, .inl (upd (f_stN co (f_div am co ca hc x rm).1 8) x 0))), (q3, .inl (g 0, 8, .inl (upd ca x 0))), (q5, .inl (g 0, 8, .inl ((f_fgN am ac x 8).2))), (q6, .inl (g 1, 8, .inl (upd de x (vp_nar .boolean 1))))])) (ret := (some .int)) (by decide) rfl (Nat.le_of_ble_eq_true rfl) ?_ sz
  intro p e s m args below meth c A Q hA hQ F E hr hlk hin
  have L15 : ∀ (N15_ : Nat) (i : Nat) (co1 : Nat → Int32) (hN15_ : 8 - i < N15_) (hi : i ≤ 8) (hv : co1 = f_stN co (f_div am co ca hc x rm).1 i), zW p l e { frames := 3, cells := 0, slots := 0, locals := 72 } s m args below meth c 5 D A Q 0 0 [(k1, .inl (g 0, 8, .inl ((f_div am co ca hc x rm).1))), (k2, .inl (g 0, 8, .inl ((f_div am co ca hc x rm).2))), (q0, .inr (7, [.ref q1, .ref q2, .ref q3, .ref q4, .ref q5, .ref q6, .int (nI mc), .int hc, .int ne, .int lo])), (q1, .inl (g 0, 64, .inl am)), (q2, .inl (g 0, 8, .inl co1)), (q3, .inl (g 0, 8, .inl ca)), (q5, .inl (g 0, 8, .inl ac)), (q6, .inl (g 1, 8, .inl de))] [(0, .ref k0), (1, .ref q0), (2, .int (nI x)), (3, .int (f_loss am co ca hc x)), (4, .int (nI i))] [] 15 := by
    intro N15_
    induction N15_ with
    | zero =>
      intro i co1 hN15_
      exact absurd hN15_ (Nat.not_lt_zero _)
    | succ N15_ ih15 =>
      intro i co1 hN15_ hi hv
      refine z_iload F 4 dX7_settle_15 rfl ?_
      refine z_bipush (v := 8) F dX7_settle_17 (by decide) ?_
      refine z_icmp_ge (tgt := 45) F dX7_settle_19 (by decide) (fun c1 => ?_) (fun c1 => ?_)
      · have hi8 : i = 8 := by have := z_ge (by omega) (by decide) (show nI 8 ≤ nI i from c1); omega
        refine z_aload_n F 1 dX7_settle_45 rfl rfl ?_
        refine z_getN (C := RX5) (T := TX5) (N := 10) F (fun w h => List.mem_cons_of_mem _ (List.mem_append_left _ (List.mem_append_left _ (List.mem_append_left _ (List.mem_append_right _ (h)))))) 2 rfl rfl 1 (by decide) (zEnv.nf E 1 rfl) rfl rfl dX7_settle_46 ?_
        refine z_iload_n F 2 dX7_settle_49 rfl rfl ?_
        refine z_iconst (v := 0) F dX7_settle_50 (by decide) ?_
        refine z_iastN (j := x) (ws' := [(k1, .inl (g 0, 8, .inl ((f_div am co ca hc x rm).1))), (k2, .inl (g 0, 8, .inl ((f_div am co ca hc x rm).2))), (q0, .inr (7, [.ref q1, .ref q2, .ref q3, .ref q4, .ref q5, .ref q6, .int (nI mc), .int hc, .int ne, .int lo])), (q1, .inl (g 0, 64, .inl am)), (q2, .inl (g 0, 8, .inl (upd co1 x 0))), (q3, .inl (g 0, 8, .inl ca)), (q5, .inl (g 0, 8, .inl ac)), (q6, .inl (g 1, 8, .inl de))]) F 4 0 rfl rfl (by omega) (by decide) rfl dX7_settle_51 ?_
        refine z_aload_n F 1 dX7_settle_52 rfl rfl ?_
        refine z_getN (C := RX5) (T := TX5) (N := 10) F (fun w h => List.mem_cons_of_mem _ (List.mem_append_left _ (List.mem_append_left _ (List.mem_append_left _ (List.mem_append_right _ (h)))))) 2 rfl rfl 2 (by decide) (zEnv.nf E 4 rfl) rfl rfl dX7_settle_53 ?_
        refine z_iload_n F 2 dX7_settle_56 rfl rfl ?_
        refine z_iconst (v := 0) F dX7_settle_57 (by decide) ?_
        refine z_iastN (j := x) (ws' := [(k1, .inl (g 0, 8, .inl ((f_div am co ca hc x rm).1))), (k2, .inl (g 0, 8, .inl ((f_div am co ca hc x rm).2))), (q0, .inr (7, [.ref q1, .ref q2, .ref q3, .ref q4, .ref q5, .ref q6, .int (nI mc), .int hc, .int ne, .int lo])), (q1, .inl (g 0, 64, .inl am)), (q2, .inl (g 0, 8, .inl (upd co1 x 0))), (q3, .inl (g 0, 8, .inl (upd ca x 0))), (q5, .inl (g 0, 8, .inl ac)), (q6, .inl (g 1, 8, .inl de))]) F 5 0 rfl rfl (by omega) (by decide) rfl dX7_settle_58 ?_
        refine z_aload_n F 1 dX7_settle_59 rfl rfl ?_
        refine z_iload_n F 2 dX7_settle_60 rfl rfl ?_
        refine z_callv (wn := [(k1, .inl (g 0, 8, .inl ((f_div am co ca hc x rm).1))), (k2, .inl (g 0, 8, .inl ((f_div am co ca hc x rm).2))), (q0, .inr (7, [.ref q1, .ref q2, .ref q3, .ref q4, .ref q5, .ref q6, .int (nI mc), .int hc, .int ne, .int lo])), (q2, .inl (g 0, 8, .inl (upd co1 x 0))), (q3, .inl (g 0, 8, .inl (upd ca x 0))), (q6, .inl (g 1, 8, .inl de))]) (wf := fun _ => [(k1, .inl (g 0, 8, .inl ((f_div am co ca hc x rm).1))), (k2, .inl (g 0, 8, .inl ((f_div am co ca hc x rm).2))), (q0, .inr (7, [.ref q1, .ref q2, .ref q3, .ref q4, .ref q5, .ref q6, .int (nI mc), .int hc, .int ne, .int lo])), (q1, .inl (g 0, 64, .inl ((f_fgN am ac x 8).1))), (q2, .inl (g 0, 8, .inl (upd co1 x 0))), (q3, .inl (g 0, 8, .inl (upd ca x 0))), (q5, .inl (g 0, 8, .inl ((f_fgN am ac x 8).2))), (q6, .inl (g 1, 8, .inl de))]) F (z_runV (st := []) F zNo_ok trivial (fun sz => c_X5_forgiveDebts l D g q0 q1 q2 q3 q4 q5 q6 am ac mc hc ne lo x (by omega) sz) (cwV 1 F.1.2.2.2.2 gX7_settle_X5_forgiveDebts rfl rfl rfl (by decide +kernel) ⟨Nat.le_of_ble_eq_true rfl, Nat.le_of_ble_eq_true rfl⟩) 2 rfl rfl rfl [3, 6] [2] rfl rfl (by decide) rfl rfl (Nat.le_of_ble_eq_true rfl) dX7_settle_61 ⟨Nat.le_of_ble_eq_true rfl, Nat.le_of_ble_eq_true rfl⟩) [3, 6] [0, 1, 2, 4, 5, 7] [0, 1, 2, 6, 3, 4, 7, 5] rfl rfl (by decide) (by decide) (by decide) (fun _ => rfl) (fun _ hw2 => ?_)
        clear hw2
        refine z_aload_n F 1 dX7_settle_64 rfl rfl ?_
        refine z_getN (C := RX5) (T := TX5) (N := 10) F (fun w h => List.mem_cons_of_mem _ (List.mem_append_left _ (List.mem_append_left _ (List.mem_append_left _ (List.mem_append_right _ (h)))))) 2 rfl rfl 5 (by decide) (zEnv.nf E 10 rfl) rfl rfl dX7_settle_65 ?_
        refine z_iload_n F 2 dX7_settle_68 rfl rfl ?_
        refine z_iconst (v := 1) F dX7_settle_69 (by decide) ?_
        refine z_zastN (j := x) (ws' := [(k1, .inl (g 0, 8, .inl ((f_div am co ca hc x rm).1))), (k2, .inl (g 0, 8, .inl ((f_div am co ca hc x rm).2))), (q0, .inr (7, [.ref q1, .ref q2, .ref q3, .ref q4, .ref q5, .ref q6, .int (nI mc), .int hc, .int ne, .int lo])), (q1, .inl (g 0, 64, .inl ((f_fgN am ac x 8).1))), (q2, .inl (g 0, 8, .inl (upd co1 x 0))), (q3, .inl (g 0, 8, .inl (upd ca x 0))), (q5, .inl (g 0, 8, .inl ((f_fgN am ac x 8).2))), (q6, .inl (g 1, 8, .inl (upd de x (vp_nar .boolean 1))))]) F 7 1 rfl rfl (by omega) (by decide) rfl dX7_settle_70 ?_
        refine z_aload_n F 1 dX7_settle_71 rfl rfl ?_
        refine z_dup F dX7_settle_72 rfl ?_
        refine z_getN (C := RX5) (T := TX5) (N := 10) F (fun w h => List.mem_cons_of_mem _ (List.mem_append_left _ (List.mem_append_left _ (List.mem_append_left _ (List.mem_append_right _ (h)))))) 2 rfl rfl 9 (by decide) (zEnv.nf E 17 rfl) rfl rfl dX7_settle_73 ?_
        refine z_iload_n F 3 dX7_settle_76 rfl rfl ?_
        refine z_iadd F dX7_settle_77 ?_
        refine z_putN (C := RX5) (T := TX5) (N := 10) (ty := .int) (ws' := [(k1, .inl (g 0, 8, .inl ((f_div am co ca hc x rm).1))), (k2, .inl (g 0, 8, .inl ((f_div am co ca hc x rm).2))), (q0, .inr (7, [.ref q1, .ref q2, .ref q3, .ref q4, .ref q5, .ref q6, .int (nI mc), .int hc, .int ne, .int (lo + (f_loss am co ca hc x))])), (q1, .inl (g 0, 64, .inl ((f_fgN am ac x 8).1))), (q2, .inl (g 0, 8, .inl (upd co1 x 0))), (q3, .inl (g 0, 8, .inl (upd ca x 0))), (q5, .inl (g 0, 8, .inl ((f_fgN am ac x 8).2))), (q6, .inl (g 1, 8, .inl (upd de x (vp_nar .boolean 1))))]) F (fun w h => List.mem_cons_of_mem _ (List.mem_append_left _ (List.mem_append_left _ (List.mem_append_left _ (List.mem_append_right _ (h)))))) tyX5 tyX5_ok nmX5 2 rfl rfl 9 (by decide) (zEnv.nf E 17 rfl) rfl rfl (by decide +kernel) (rfl) (rfl) (Nat.le_of_ble_eq_true rfl) rfl dX7_settle_78 ?_
        refine z_iload_n F 3 dX7_settle_81 rfl rfl ?_
        exact z_iret F hA hQ hlk hr () (rfl) (by rw [hv, hi8]) dX7_settle_82
      · have hi8 : i < 8 := z_lt (by omega) (by decide) c1
        refine z_aload_n F 1 dX7_settle_22 rfl rfl ?_
        refine z_getN (C := RX5) (T := TX5) (N := 10) F (fun w h => List.mem_cons_of_mem _ (List.mem_append_left _ (List.mem_append_left _ (List.mem_append_left _ (List.mem_append_right _ (h)))))) 2 rfl rfl 1 (by decide) (zEnv.nf E 1 rfl) rfl rfl dX7_settle_23 ?_
        refine z_iload F 4 dX7_settle_26 rfl ?_
        refine z_dup2 F dX7_settle_28 rfl rfl ?_
        refine z_ialdN (j := i) F 4 0 rfl rfl (by omega) (by decide) dX7_settle_29 ?_
        refine z_aload_n F 0 dX7_settle_30 rfl rfl ?_
        refine z_get (C := RX7) (T := TX7) (N := 2) F (fun w h => List.mem_cons_of_mem _ (List.mem_append_left _ (List.mem_append_left _ (List.mem_append_right _ (h))))) 8 rfl rfl 0 (by decide) (List.mem_cons_of_mem _ (List.mem_append_left _ (List.mem_append_left _ (List.mem_append_left _ (List.mem_append_left _ (List.mem_append_left _ (List.mem_of_getElem? (i := 0) rfl))))))) rfl rfl dX7_settle_31 ?_
        refine z_iload F 4 dX7_settle_34 rfl ?_
        refine z_ialdN (j := i) F 0 0 rfl rfl (by omega) (by decide) dX7_settle_36 ?_
        refine z_iadd F dX7_settle_37 ?_
        refine z_iastN (j := i) (ws' := [(k1, .inl (g 0, 8, .inl ((f_div am co ca hc x rm).1))), (k2, .inl (g 0, 8, .inl ((f_div am co ca hc x rm).2))), (q0, .inr (7, [.ref q1, .ref q2, .ref q3, .ref q4, .ref q5, .ref q6, .int (nI mc), .int hc, .int ne, .int lo])), (q1, .inl (g 0, 64, .inl am)), (q2, .inl (g 0, 8, .inl (upd co1 i ((co1 i) + (((f_div am co ca hc x rm).1) i))))), (q3, .inl (g 0, 8, .inl ca)), (q5, .inl (g 0, 8, .inl ac)), (q6, .inl (g 1, 8, .inl de))]) F 4 0 rfl rfl (by omega) (by decide) rfl dX7_settle_38 ?_
        refine z_iinc (v := nI (i + 1)) (lv' := [(4, .int (nI (i + 1))), (0, .ref k0), (1, .ref q0), (2, .int (nI x)), (3, .int (f_loss am co ca hc x))]) F dX7_settle_39 4 rfl (nI_1 i) (by decide) rfl ?_
        refine z_goto (tgt := 15) F dX7_settle_42 (by decide) ?_
        refine z_loc (lv' := [(0, .ref k0), (1, .ref q0), (2, .int (nI x)), (3, .int (f_loss am co ca hc x)), (4, .int (nI (i + 1)))]) [1, 2, 3, 4, 0] rfl ?_
        exact ih15 (i + 1) (upd co1 i ((co1 i) + (((f_div am co ca hc x rm).1) i))) (by omega) (by omega) (by first | rfl | (rw [hv]; rfl))
  show zW p l e { frames := 3, cells := 0, slots := 0, locals := 72 } s m args below meth c 5 D A Q 0 0 [(k1, .inl (g 0, 8, .inl sh)), (k2, .inl (g 0, 8, .inl rm)), (q0, .inr (7, [.ref q1, .ref q2, .ref q3, .ref q4, .ref q5, .ref q6, .int (nI mc), .int hc, .int ne, .int lo])), (q1, .inl (g 0, 64, .inl am)), (q2, .inl (g 0, 8, .inl co)), (q3, .inl (g 0, 8, .inl ca)), (q5, .inl (g 0, 8, .inl ac)), (q6, .inl (g 1, 8, .inl de))] [(0, .ref k0), (1, .ref q0), (2, .int (nI x))] [] 0
  refine z_aload_n F 1 dX7_settle_0 rfl rfl ?_
  refine z_iload_n F 2 dX7_settle_1 rfl rfl ?_
  refine z_calli0 F (z_runV (st := []) F zNo_ok trivial (fun sz => c_X5_lossOf l D g q0 q1 q2 q3 q4 q5 q6 am co ca mc hc ne lo x (by omega) sz) (cwV 1 F.1.2.2.2.2 gX7_settle_X5_lossOf rfl rfl rfl (by decide +kernel) ⟨Nat.le_of_ble_eq_true rfl, Nat.le_of_ble_eq_true rfl⟩) 2 rfl rfl rfl [] [2, 3, 4, 5] rfl rfl (by decide) rfl rfl (Nat.le_of_ble_eq_true rfl) dX7_settle_2 ⟨Nat.le_of_ble_eq_true rfl, Nat.le_of_ble_eq_true rfl⟩) (fun r4 _ hw3 => ?_)
  subst hw3
  refine z_istore_n (lv' := [(3, .int (f_loss am co ca hc x)), (0, .ref k0), (1, .ref q0), (2, .int (nI x))]) F dX7_settle_5 rfl (by decide) rfl ?_
  refine z_aload_n F 1 dX7_settle_6 rfl rfl ?_
  refine z_aload_n F 2 dX7_settle_7 rfl rfl ?_
  refine z_iload_n F 3 dX7_settle_8 rfl rfl ?_
  refine z_callv (wn := [(q0, .inr (7, [.ref q1, .ref q2, .ref q3, .ref q4, .ref q5, .ref q6, .int (nI mc), .int hc, .int ne, .int lo])), (q1, .inl (g 0, 64, .inl am)), (q2, .inl (g 0, 8, .inl co)), (q3, .inl (g 0, 8, .inl ca)), (q5, .inl (g 0, 8, .inl ac)), (q6, .inl (g 1, 8, .inl de))]) (wf := fun _ => [(k1, .inl (g 0, 8, .inl ((f_div am co ca hc x rm).1))), (k2, .inl (g 0, 8, .inl ((f_div am co ca hc x rm).2))), (q0, .inr (7, [.ref q1, .ref q2, .ref q3, .ref q4, .ref q5, .ref q6, .int (nI mc), .int hc, .int ne, .int lo])), (q1, .inl (g 0, 64, .inl am)), (q2, .inl (g 0, 8, .inl co)), (q3, .inl (g 0, 8, .inl ca)), (q5, .inl (g 0, 8, .inl ac)), (q6, .inl (g 1, 8, .inl de))]) F (z_runV (st := []) F zNo_ok trivial (fun sz => c_X7_divide l D g k0 k1 k2 sh rm q0 q1 q2 q3 q4 q5 q6 am co ca mc hc ne lo x (by omega) sz) (cwV 2 F.1.2.2.2.2 gX7_settle_X7_divide rfl rfl rfl (by decide +kernel) ⟨Nat.le_of_ble_eq_true rfl, Nat.le_of_ble_eq_true rfl⟩) 8 rfl rfl rfl [0, 1] [8, 2, 3, 4, 5] rfl rfl (by decide) rfl rfl (Nat.le_of_ble_eq_true rfl) dX7_settle_9 ⟨Nat.le_of_ble_eq_true rfl, Nat.le_of_ble_eq_true rfl⟩) [0, 1] [2, 3, 4, 5, 6, 7] [6, 7, 0, 1, 2, 3, 4, 5] rfl rfl (by decide) (by decide) (by decide) (fun _ => rfl) (fun _ hw5 => ?_)
  clear hw5
  refine z_iconst (v := 0) F dX7_settle_12 (by decide) ?_
  refine z_istore (lv' := [(4, .int 0), (3, .int (f_loss am co ca hc x)), (0, .ref k0), (1, .ref q0), (2, .int (nI x))]) F dX7_settle_13 (by decide) rfl ?_
  refine z_loc (lv' := [(0, .ref k0), (1, .ref q0), (2, .int (nI x)), (3, .int (f_loss am co ca hc x)), (4, .int (nI 0))]) [2, 3, 4, 1, 0] rfl ?_
  exact L15 _ 0 co (Nat.lt_succ_self _) (by omega) (by first | rfl | (rw [hv]; rfl))
