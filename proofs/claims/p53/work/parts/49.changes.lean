/-! A CHANGE OF THE LAW'S: recorded, or nothing at all -/
theorem z_ansT {S : Type} {f : Nat} {h : Nat → Int32} {good : Int32 → S → Prop} {same : S} {r : Int32} {u : S} (H : zAns f h good same r u) (hg : f = 0 → good r u → 0 ≤ r.toInt) (hr : r < 0) : u = same := by
  by_cases q : f = 0
  · have h1 := hg q (H.1 q)
    have h2 := z_ltT.mp hr
    rw [Int32.toInt_zero] at h2
    omega
  · exact (H.2 q).2
theorem z_ansF {S : Type} {f : Nat} {h : Nat → Int32} {good : Int32 → S → Prop} {same : S} {r : Int32} {u : S} (H : zAns f h good same r u) (hh : ∀ f, h f < 0) (hr : ¬ r < 0) : f = 0 ∧ good r u := by
  by_cases q : f = 0
  · exact ⟨q, H.1 q⟩
  · rw [(H.2 q).1] at hr
    exact absurd (hh f) hr
theorem f_clF_cnt : ∀ (k : Nat) (am ac op : Nat → Int32) (i : Nat), (f_clF k am ac op i).2.2 ≤ i + k
  | 0, _, _, _, i => Nat.le_refl i
  | k + 1, am, ac, op, i => by
    unfold f_clF
    split
    · exact Nat.le_add_right _ _
    · have := f_clF_cnt k (f_chA am (f_fdD op) (f_fdC op) (f_fdA op)) (f_chC ac (f_fdD op) (f_fdC op) (f_fdA op)) (f_fdO op) (i + 1)
      omega
def f_chgP (k k9 : zKK) (r : Int32) : Prop := (r = 1 ∧ ∃ L9, zIv L9 ∧ k9 = doneK k L9) ∨ (r = 0 ∧ ∃ ep fc, k9 = errK k ep fc)
theorem z_chgN {k : zKK} : f_chgP k (inK k 0) 0 := Or.inr ⟨rfl, kE k, kF k, rfl⟩
theorem z_sz9 {i : Nat} (h : i < 9) : f_sz (nI i) = 1 := by
  have : ∀ i, i < 9 → f_sz (nI i) = 1 := by decide +kernel
  exact this i h
/-- a text that is run: its answer -/
theorem z_runC {k k9 : zKK} {x : Nat → Int32} {j j9 : zGG} {r : Int32} {n : Nat} (hI : zIv (kL k)) (hn : n ≤ 60) (hnc : jnc j ≤ 3) (h : f_runP (inK k n) x j r k9 j9) : jnc j9 ≤ 3 ∧ (r < 0 → f_chgP k k9 0) ∧ (¬ r < 0 → f_chgP k k9 1) := by
  refine ⟨h.1, fun hr => ?_, fun hr => ?_⟩
  · rcases h.2 with ⟨cn, L9, h0, h1, h2, h3, h4, h5, h6⟩ | ⟨h1, h2, h3⟩ | ⟨h1, h2, cn, r9, L9, h0, h3, h4, h5, h6⟩
    · obtain ⟨c2, g1, g2, -, -⟩ := f_fe_ok (tx := zMk x n) (ln := n) (en := jen j) (s := (jre j, jnc j, jnu j)) hn hnc h1 (0, 0, fun _ => 0)
      have e : r = nI c2 := h2.trans (h3.symm.trans g2)
      rw [e] at hr
      have := z_ltT.mp hr
      rw [nI_toInt (by omega), Int32.toInt_zero] at this
      omega
    · exact Or.inr ⟨rfl, _, _, h3⟩
    · exact Or.inr ⟨rfl, _, _, h6⟩
  · rcases h.2 with ⟨cn, L9, h0, h1, h2, h3, h4, h5, h6⟩ | ⟨h1, h2, h3⟩ | ⟨h1, h2, cn, r9, L9, h0, h3, h4, h5, h6⟩
    · exact Or.inl ⟨rfl, L9, zIv_cu cn _ _ _ _ _ _ hI h4, h6⟩
    · rw [h1] at hr; exact absurd (by decide) hr
    · rw [h1] at hr; exact absurd (by decide) hr
set_option maxHeartbeats 4000000 in
set_option maxRecDepth 100000 in
theorem c_L_changes (l : Launch) (hl9 : l.stackTraces = false) (D : va_G) (g : Nat → ClassId) (er : Nat → Nat) (dg : Nat → Nat) (ec : Nat → Nat) (fs : Nat → Nat) (fv : Nat → Nat) (qa : Nat) (sw : Nat) (sb : Nat) (sn : Nat) (xs : Nat → Int32) (a : Nat → Nat) (k : zKK) (x : Nat → Int32) (o : zOO) (j : zGG) (v : Int32) (hI : zIv (kL k)) (hn : kN k < 8) (hc9 : kC k < 9) (hnc : jnc j ≤ 3) (sz : Nat) : Met l yL_changes wsL_changes { frames := 10, cells := 80, slots := 2200, locals := 223 } (zPc D (gT g) (zEnvL er D g dg ec fs fv qa sw sb sn xs) [.ref (a 0), .int v] (sysD g a ((inK k 0)) x o j) [] sz) (zQi D (sysD g a ((inK k 0)) x o j) (fun (r : Int32) (u : zKK × (Nat → Int32) × zGG) => jnc u.2.2 ≤ 3 ∧ f_chgP k u.1 r) (fun (u9 : zKK × (Nat → Int32) × zGG) => (sysD g a u9.1 u9.2.1 o u9.2.2)) sz) 80 2200 (va_A (sysD g a ((inK k 0)) x o j) sz) := by
  refine z_met (y := yL_changes) (cc := cL_changes) (nL := 5) (rm := { frames := 10, cells := 80, slots := 2200, locals := 223 }) (D := D) (tys := gT g) (wr := []) (P0 := zEnvL er D g dg ec fs fv qa sw sb sn xs) (As := [.ref (a 0), .int v]) (ww := (sysD g a ((inK k 0)) x o j)) (Qc := zQi D (sysD g a ((inK k 0)) x o j) (fun (r : Int32) (u : zKK × (Nat → Int32) × zGG) => jnc u.2.2 ≤ 3 ∧ f_chgP k u.1 r) (fun (u9 : zKK × (Nat → Int32) × zGG) => (sysD g a u9.1 u9.2.1 o u9.2.2))) (ret := (some .boolean)) (by decide) rfl (Nat.le_of_ble_eq_true rfl) ?_ sz
  intro p e s m args below meth c A Q hA hQ F E hr hlk hin
  have hm := hI.1.2
  have l8 : f_fl 8 = 15 := by decide
  have l9 : f_fl 9 = 1 := by decide
  have l10 : f_fl 10 = 16 := by decide
  have L153 : ∀ (a9 : Nat) (b9 : Nat) (m9 : Int32) (ha9 : a9 < 9) (hb9 : b9 < 9), zW p l e { frames := 10, cells := 80, slots := 2200, locals := 223 } s m args below meth c 5 D A Q 0 0 (sysD g a ((inK k 0)) x o j) [(0, .ref (a 0)), (1, .int v), (2, .int (nI a9)), (3, .int (nI b9)), (4, .int m9)] [] 153 := by
    intro a9 b9 m9 ha9 hb9
    refine z_aload_n F 0 dL_changes_153 rfl rfl ?_
    refine z_iload_n F 2 dL_changes_154 rfl rfl ?_
    refine z_iload_n F 3 dL_changes_155 rfl rfl ?_
    refine z_iload F 4 dL_changes_156 rfl ?_
    refine z_sysi (wf := fun k158 => (sysD g a k158 x o j)) F (z_sysW (X := sysD g a ((inK k 0)) x o j) (Y := []) (st := []) F ((zEnvL_ok er D g dg ec fs fv qa sw sb sn xs)) E (fun sz => c_L_addDebt l hl9 D g er dg ec fs fv qa sw sb sn xs a ((inK k 0)) x o j (nI a9) (nI b9) m9 (hm) (hn) (hc9) sz) (vx_cwSW 4 F.1.2.2.2.2 gL_changes_L_addDebt rfl rfl rfl (by decide +kernel) ⟨Nat.le_of_ble_eq_true rfl, Nat.le_of_ble_eq_true rfl⟩) (List.append_nil _).symm [] rfl rfl (by decide) rfl rfl (Nat.le_of_ble_eq_true rfl) dL_changes_158 ⟨Nat.le_of_ble_eq_true rfl, Nat.le_of_ble_eq_true rfl⟩) (List.append_nil _).symm (fun _ => rfl) (fun _ => List.append_nil _) (fun r158 k158 hw158 => ?_)
    refine z_if_lt (tgt := 168) F dL_changes_161 (by decide) (fun c1 => ?_) (fun c1 => ?_)
    · refine z_iconst (v := 0) F dL_changes_168 (by decide) ?_
      refine z_wide (k := 80) (n := 2200) (by first | exact Nat.le_of_ble_eq_true rfl | omega) (by first | exact Nat.le_of_ble_eq_true rfl | omega) ?_
      exact z_zret F hA hQ hlk hr (rfl) (k158, x, j) (⟨hnc, by rw [show k158 = (inK k 0) from (z_ansT hw158 (fun hf g => by rw [g.1]; have := (zIv_debt hI hf).2; exact Int.le_trans (by decide) this) c1)]; exact z_chgN⟩) (rfl) dL_changes_169
    · refine z_iconst (v := 1) F dL_changes_164 (by decide) ?_
      refine z_goto (tgt := 169) F dL_changes_165 (by decide) ?_
      refine z_wide (k := 80) (n := 2200) (by first | exact Nat.le_of_ble_eq_true rfl | omega) (by first | exact Nat.le_of_ble_eq_true rfl | omega) ?_
      exact z_zret F hA hQ hlk hr (rfl) (k158, x, j) ((by obtain ⟨hf, -, g2⟩ := (z_ansF hw158 (fun f9 => by (repeat' split) <;> decide) c1); exact ⟨hnc, Or.inl ⟨rfl, lDebt (kL k) (nI a9) (nI b9) m9, (zIv_debt hI hf).1, g2⟩⟩)) (rfl) dL_changes_169
  have L170 : ∀ (a9 : Nat) (b9 : Nat) (m9 : Int32) (ha9 : a9 < 9) (hb9 : b9 < 9), zW p l e { frames := 10, cells := 80, slots := 2200, locals := 223 } s m args below meth c 5 D A Q 0 0 (sysD g a ((inK k 0)) x o j) [(0, .ref (a 0)), (1, .int v), (2, .int (nI a9)), (3, .int (nI b9)), (4, .int m9)] [] 170 := by
    intro a9 b9 m9 ha9 hb9
    refine z_aload_n F 0 dL_changes_170 rfl rfl ?_
    refine z_iload_n F 2 dL_changes_171 rfl rfl ?_
    refine z_iload_n F 3 dL_changes_172 rfl rfl ?_
    refine z_iload F 4 dL_changes_173 rfl ?_
    refine z_sysi (wf := fun k175 => (sysD g a k175 x o j)) F (z_sysW (X := sysD g a ((inK k 0)) x o j) (Y := []) (st := []) F ((zEnvL_ok er D g dg ec fs fv qa sw sb sn xs)) E (fun sz => c_L_pay l hl9 D g er dg ec fs fv qa sw sb sn xs a ((inK k 0)) x o j (nI a9) (nI b9) m9 (hm) (hn) (hc9) sz) (vx_cwSW 4 F.1.2.2.2.2 gL_changes_L_pay rfl rfl rfl (by decide +kernel) ⟨Nat.le_of_ble_eq_true rfl, Nat.le_of_ble_eq_true rfl⟩) (List.append_nil _).symm [] rfl rfl (by decide) rfl rfl (Nat.le_of_ble_eq_true rfl) dL_changes_175 ⟨Nat.le_of_ble_eq_true rfl, Nat.le_of_ble_eq_true rfl⟩) (List.append_nil _).symm (fun _ => rfl) (fun _ => List.append_nil _) (fun r175 k175 hw175 => ?_)
    refine z_if_lt (tgt := 185) F dL_changes_178 (by decide) (fun c2 => ?_) (fun c2 => ?_)
    · refine z_iconst (v := 0) F dL_changes_185 (by decide) ?_
      refine z_wide (k := 80) (n := 2200) (by first | exact Nat.le_of_ble_eq_true rfl | omega) (by first | exact Nat.le_of_ble_eq_true rfl | omega) ?_
      exact z_zret F hA hQ hlk hr (rfl) (k175, x, j) (⟨hnc, by rw [show k175 = (inK k 0) from (z_ansT hw175 (fun hf g => by rw [g.1]; exact (zIv_pay hI hf).2) c2)]; exact z_chgN⟩) (rfl) dL_changes_186
    · refine z_iconst (v := 1) F dL_changes_181 (by decide) ?_
      refine z_goto (tgt := 186) F dL_changes_182 (by decide) ?_
      refine z_wide (k := 80) (n := 2200) (by first | exact Nat.le_of_ble_eq_true rfl | omega) (by first | exact Nat.le_of_ble_eq_true rfl | omega) ?_
      exact z_zret F hA hQ hlk hr (rfl) (k175, x, j) ((by obtain ⟨hf, -, g2⟩ := (z_ansF hw175 (fun f9 => by (repeat' split) <;> decide) c2); exact ⟨hnc, Or.inl ⟨rfl, lPay (kL k) (nI a9) (nI b9) m9, (zIv_pay hI hf).1, g2⟩⟩)) (rfl) dL_changes_186
  have L187 : ∀ (a9 : Nat) (b9 : Nat) (m9 : Int32) (ha9 : a9 < 9) (hb9 : b9 < 9), zW p l e { frames := 10, cells := 80, slots := 2200, locals := 223 } s m args below meth c 5 D A Q 0 0 (sysD g a ((inK k 0)) x o j) [(0, .ref (a 0)), (1, .int v), (2, .int (nI a9)), (3, .int (nI b9)), (4, .int m9)] [] 187 := by
    intro a9 b9 m9 ha9 hb9
    refine z_aload_n F 0 dL_changes_187 rfl rfl ?_
    refine z_iload_n F 2 dL_changes_188 rfl rfl ?_
    refine z_iload_n F 3 dL_changes_189 rfl rfl ?_
    refine z_sysi (wf := fun k190 => (sysD g a k190 x o j)) F (z_sysW (X := sysD g a ((inK k 0)) x o j) (Y := []) (st := []) F ((zEnvL_ok er D g dg ec fs fv qa sw sb sn xs)) E (fun sz => c_L_netPair l hl9 D g er dg ec fs fv qa sw sb sn xs a ((inK k 0)) x o j (nI a9) (nI b9) (hm) (hn) (hc9) sz) (vx_cwSW 3 F.1.2.2.2.2 gL_changes_L_netPair rfl rfl rfl (by decide +kernel) ⟨Nat.le_of_ble_eq_true rfl, Nat.le_of_ble_eq_true rfl⟩) (List.append_nil _).symm [] rfl rfl (by decide) rfl rfl (Nat.le_of_ble_eq_true rfl) dL_changes_190 ⟨Nat.le_of_ble_eq_true rfl, Nat.le_of_ble_eq_true rfl⟩) (List.append_nil _).symm (fun _ => rfl) (fun _ => List.append_nil _) (fun r190 k190 hw190 => ?_)
    refine z_if_lt (tgt := 200) F dL_changes_193 (by decide) (fun c3 => ?_) (fun c3 => ?_)
    · refine z_iconst (v := 0) F dL_changes_200 (by decide) ?_
      refine z_wide (k := 80) (n := 2200) (by first | exact Nat.le_of_ble_eq_true rfl | omega) (by first | exact Nat.le_of_ble_eq_true rfl | omega) ?_
      exact z_zret F hA hQ hlk hr (rfl) (k190, x, j) (⟨hnc, by rw [show k190 = (inK k 0) from (z_ansT hw190 (fun hf g => by rw [g.1]; exact (zIv_n2 hI hf).2) c3)]; exact z_chgN⟩) (rfl) dL_changes_201
    · refine z_iconst (v := 1) F dL_changes_196 (by decide) ?_
      refine z_goto (tgt := 201) F dL_changes_197 (by decide) ?_
      refine z_wide (k := 80) (n := 2200) (by first | exact Nat.le_of_ble_eq_true rfl | omega) (by first | exact Nat.le_of_ble_eq_true rfl | omega) ?_
      exact z_zret F hA hQ hlk hr (rfl) (k190, x, j) ((by obtain ⟨hf, -, g2⟩ := (z_ansF hw190 (fun f9 => by (repeat' split) <;> decide) c3); exact ⟨hnc, Or.inl ⟨rfl, lN2 (kL k) (nI a9) (nI b9), (zIv_n2 hI hf).1, g2⟩⟩)) (rfl) dL_changes_201
  have L202 : ∀ (a9 : Nat) (b9 : Nat) (m9 : Int32) (ha9 : a9 < 9) (hb9 : b9 < 9), zW p l e { frames := 10, cells := 80, slots := 2200, locals := 223 } s m args below meth c 5 D A Q 0 0 (sysD g a ((inK k 0)) x o j) [(0, .ref (a 0)), (1, .int v), (2, .int (nI a9)), (3, .int (nI b9)), (4, .int m9)] [] 202 := by
    intro a9 b9 m9 ha9 hb9
    refine z_aload_n F 0 dL_changes_202 rfl rfl ?_
    refine z_iload_n F 2 dL_changes_203 rfl rfl ?_
    refine z_iload_n F 3 dL_changes_204 rfl rfl ?_
    refine z_iload_n F 1 dL_changes_205 rfl rfl ?_
    refine z_bipush (v := 11) F dL_changes_206 (by decide) ?_
    refine z_ishr F dL_changes_208 ?_
    refine z_bipush (v := 9) F dL_changes_209 (by decide) ?_
    refine z_calli0 F (z_runS (st := [.int (nI b9), .int (nI a9), .ref (a 0)]) F zNo_ok trivial (fun sz => c_L_some l D g (v >>> (11 &&& 31)) 9 ((by decide)) sz) (va_cwS 2 F.1.2.2.2.2 gL_changes_L_some rfl rfl rfl (by decide +kernel) ⟨Nat.le_of_ble_eq_true rfl, Nat.le_of_ble_eq_true rfl⟩) [] [] rfl rfl (by decide) rfl rfl (Nat.le_of_ble_eq_true rfl) dL_changes_211 ⟨Nat.le_of_ble_eq_true rfl, Nat.le_of_ble_eq_true rfl⟩) (fun r5 _ hw4 => ?_)
    subst hw4
    refine z_sysi (wf := fun k214 => (sysD g a k214 x o j)) F (z_sysW (X := sysD g a ((inK k 0)) x o j) (Y := []) (st := []) F ((zEnvL_ok er D g dg ec fs fv qa sw sb sn xs)) E (fun sz => c_L_netTriangle l hl9 D g er dg ec fs fv qa sw sb sn xs a ((inK k 0)) x o j (nI a9) (nI b9) (f_some (v >>> (11 &&& 31)) 9) (hm) (hn) (hc9) sz) (vx_cwSW 4 F.1.2.2.2.2 gL_changes_L_netTriangle rfl rfl rfl (by decide +kernel) ⟨Nat.le_of_ble_eq_true rfl, Nat.le_of_ble_eq_true rfl⟩) (List.append_nil _).symm [] rfl rfl (by decide) rfl rfl (Nat.le_of_ble_eq_true rfl) dL_changes_214 ⟨Nat.le_of_ble_eq_true rfl, Nat.le_of_ble_eq_true rfl⟩) (List.append_nil _).symm (fun _ => rfl) (fun _ => List.append_nil _) (fun r214 k214 hw214 => ?_)
    refine z_if_lt (tgt := 224) F dL_changes_217 (by decide) (fun c6 => ?_) (fun c6 => ?_)
    · refine z_iconst (v := 0) F dL_changes_224 (by decide) ?_
      refine z_wide (k := 80) (n := 2200) (by first | exact Nat.le_of_ble_eq_true rfl | omega) (by first | exact Nat.le_of_ble_eq_true rfl | omega) ?_
      exact z_zret F hA hQ hlk hr (rfl) (k214, x, j) (⟨hnc, by rw [show k214 = (inK k 0) from (z_ansT hw214 (fun hf g => by rw [g.1]; exact (zIv_n3 hI hf).2) c6)]; exact z_chgN⟩) (rfl) dL_changes_225
    · refine z_iconst (v := 1) F dL_changes_220 (by decide) ?_
      refine z_goto (tgt := 225) F dL_changes_221 (by decide) ?_
      refine z_wide (k := 80) (n := 2200) (by first | exact Nat.le_of_ble_eq_true rfl | omega) (by first | exact Nat.le_of_ble_eq_true rfl | omega) ?_
      exact z_zret F hA hQ hlk hr (rfl) (k214, x, j) ((by obtain ⟨hf, -, g2⟩ := (z_ansF hw214 (fun f9 => by (repeat' split) <;> decide) c6); exact ⟨hnc, Or.inl ⟨rfl, lN3 (kL k) (nI a9) (nI b9) (f_some (v >>> (11 &&& 31)) 9), (zIv_n3 hI hf).1, g2⟩⟩)) (rfl) dL_changes_225
  have L239 : ∀ (a9 : Nat) (b9 : Nat) (m9 : Int32) (ha9 : a9 < 9) (hb9 : b9 < 9), zW p l e { frames := 10, cells := 80, slots := 2200, locals := 223 } s m args below meth c 5 D A Q 0 0 (sysD g a ((inK k 0)) x o j) [(0, .ref (a 0)), (1, .int v), (2, .int (nI a9)), (3, .int (nI b9)), (4, .int m9)] [] 239 := by
    intro a9 b9 m9 ha9 hb9
    refine z_aload_n F 0 dL_changes_239 rfl rfl ?_
    refine z_iload_n F 2 dL_changes_240 rfl rfl ?_
    refine z_iload F 4 dL_changes_241 rfl ?_
    refine z_sysi (wf := fun k243 => (sysD g a k243 x o j)) F (z_sysW (X := sysD g a ((inK k 0)) x o j) (Y := []) (st := []) F ((zEnvL_ok er D g dg ec fs fv qa sw sb sn xs)) E (fun sz => c_L_pledge l hl9 D g er dg ec fs fv qa sw sb sn xs a ((inK k 0)) x o j (nI a9) m9 (hm) (hn) (hc9) sz) (vx_cwSW 3 F.1.2.2.2.2 gL_changes_L_pledge rfl rfl rfl (by decide +kernel) ⟨Nat.le_of_ble_eq_true rfl, Nat.le_of_ble_eq_true rfl⟩) (List.append_nil _).symm [] rfl rfl (by decide) rfl rfl (Nat.le_of_ble_eq_true rfl) dL_changes_243 ⟨Nat.le_of_ble_eq_true rfl, Nat.le_of_ble_eq_true rfl⟩) (List.append_nil _).symm (fun _ => rfl) (fun _ => List.append_nil _) (fun r243 k243 hw243 => ?_)
    refine z_if_lt (tgt := 253) F dL_changes_246 (by decide) (fun c7 => ?_) (fun c7 => ?_)
    · refine z_iconst (v := 0) F dL_changes_253 (by decide) ?_
      refine z_wide (k := 80) (n := 2200) (by first | exact Nat.le_of_ble_eq_true rfl | omega) (by first | exact Nat.le_of_ble_eq_true rfl | omega) ?_
      exact z_zret F hA hQ hlk hr (rfl) (k243, x, j) (⟨hnc, by rw [show k243 = (inK k 0) from (z_ansT hw243 (fun hf g => by rw [g.1]; exact Int.le_trans (by decide) (zIv_plg hI hf).2) c7)]; exact z_chgN⟩) (rfl) dL_changes_254
    · refine z_iconst (v := 1) F dL_changes_249 (by decide) ?_
      refine z_goto (tgt := 254) F dL_changes_250 (by decide) ?_
      refine z_wide (k := 80) (n := 2200) (by first | exact Nat.le_of_ble_eq_true rfl | omega) (by first | exact Nat.le_of_ble_eq_true rfl | omega) ?_
      exact z_zret F hA hQ hlk hr (rfl) (k243, x, j) ((by obtain ⟨hf, -, g2⟩ := (z_ansF hw243 (fun f9 => by (repeat' split) <;> decide) c7); exact ⟨hnc, Or.inl ⟨rfl, lPlg (kL k) (nI a9) m9, (zIv_plg hI hf).1, g2⟩⟩)) (rfl) dL_changes_254
  have L255 : ∀ (a9 : Nat) (b9 : Nat) (m9 : Int32) (ha9 : a9 < 9) (hb9 : b9 < 9), zW p l e { frames := 10, cells := 80, slots := 2200, locals := 223 } s m args below meth c 5 D A Q 0 0 (sysD g a ((inK k 0)) x o j) [(0, .ref (a 0)), (1, .int v), (2, .int (nI a9)), (3, .int (nI b9)), (4, .int m9)] [] 255 := by
    intro a9 b9 m9 ha9 hb9
    refine z_aload_n F 0 dL_changes_255 rfl rfl ?_
    refine z_iload_n F 2 dL_changes_256 rfl rfl ?_
    refine z_iload_n F 1 dL_changes_257 rfl rfl ?_
    refine z_bipush (v := 8) F dL_changes_258 (by decide) ?_
    refine z_ishr F dL_changes_260 ?_
    refine z_sipush (v := 510) F dL_changes_261 (by decide) ?_
    refine z_calli0 F (z_runS (st := [.int (nI a9), .ref (a 0)]) F zNo_ok trivial (fun sz => c_L_some l D g (v >>> (8 &&& 31)) 510 ((by decide)) sz) (va_cwS 2 F.1.2.2.2.2 gL_changes_L_some rfl rfl rfl (by decide +kernel) ⟨Nat.le_of_ble_eq_true rfl, Nat.le_of_ble_eq_true rfl⟩) [] [] rfl rfl (by decide) rfl rfl (Nat.le_of_ble_eq_true rfl) dL_changes_264 ⟨Nat.le_of_ble_eq_true rfl, Nat.le_of_ble_eq_true rfl⟩) (fun r9 _ hw8 => ?_)
    subst hw8
    refine z_sysi (wf := fun k267 => (sysD g a k267 x o j)) F (z_sysW (X := sysD g a ((inK k 0)) x o j) (Y := []) (st := []) F ((zEnvL_ok er D g dg ec fs fv qa sw sb sn xs)) E (fun sz => c_L_setLimit l hl9 D g er dg ec fs fv qa sw sb sn xs a ((inK k 0)) x o j (nI a9) (f_some (v >>> (8 &&& 31)) 510) (hm) (hn) (hc9) sz) (vx_cwSW 3 F.1.2.2.2.2 gL_changes_L_setLimit rfl rfl rfl (by decide +kernel) ⟨Nat.le_of_ble_eq_true rfl, Nat.le_of_ble_eq_true rfl⟩) (List.append_nil _).symm [] rfl rfl (by decide) rfl rfl (Nat.le_of_ble_eq_true rfl) dL_changes_267 ⟨Nat.le_of_ble_eq_true rfl, Nat.le_of_ble_eq_true rfl⟩) (List.append_nil _).symm (fun _ => rfl) (fun _ => List.append_nil _) (fun r267 k267 hw267 => ?_)
    refine z_if_lt (tgt := 277) F dL_changes_270 (by decide) (fun c10 => ?_) (fun c10 => ?_)
    · refine z_iconst (v := 0) F dL_changes_277 (by decide) ?_
      refine z_wide (k := 80) (n := 2200) (by first | exact Nat.le_of_ble_eq_true rfl | omega) (by first | exact Nat.le_of_ble_eq_true rfl | omega) ?_
      exact z_zret F hA hQ hlk hr (rfl) (k267, x, j) (⟨hnc, by rw [show k267 = (inK k 0) from (z_ansT hw267 (fun hf g => by rw [g.1]; exact (zIv_lim hI hf).2) c10)]; exact z_chgN⟩) (rfl) dL_changes_278
    · refine z_iconst (v := 1) F dL_changes_273 (by decide) ?_
      refine z_goto (tgt := 278) F dL_changes_274 (by decide) ?_
      refine z_wide (k := 80) (n := 2200) (by first | exact Nat.le_of_ble_eq_true rfl | omega) (by first | exact Nat.le_of_ble_eq_true rfl | omega) ?_
      exact z_zret F hA hQ hlk hr (rfl) (k267, x, j) ((by obtain ⟨hf, -, g2⟩ := (z_ansF hw267 (fun f9 => by (repeat' split) <;> decide) c10); exact ⟨hnc, Or.inl ⟨rfl, lLim (kL k) (nI a9) (f_some (v >>> (8 &&& 31)) 510), (zIv_lim hI hf).1, g2⟩⟩)) (rfl) dL_changes_278
  have L279 : ∀ (a9 : Nat) (b9 : Nat) (m9 : Int32) (ha9 : a9 < 9) (hb9 : b9 < 9), zW p l e { frames := 10, cells := 80, slots := 2200, locals := 223 } s m args below meth c 5 D A Q 0 0 (sysD g a ((inK k 0)) x o j) [(0, .ref (a 0)), (1, .int v), (2, .int (nI a9)), (3, .int (nI b9)), (4, .int m9)] [] 279 := by
    intro a9 b9 m9 ha9 hb9
    refine z_aload_n F 0 dL_changes_279 rfl rfl ?_
    refine z_iload_n F 1 dL_changes_280 rfl rfl ?_
    refine z_iconst (v := 4) F dL_changes_281 (by decide) ?_
    refine z_ishr F dL_changes_282 ?_
    refine z_bipush (v := 93) F dL_changes_283 (by decide) ?_
    refine z_calli0 F (z_runS (st := [.ref (a 0)]) F zNo_ok trivial (fun sz => c_L_some l D g (v >>> (4 &&& 31)) 93 ((by decide)) sz) (va_cwS 2 F.1.2.2.2.2 gL_changes_L_some rfl rfl rfl (by decide +kernel) ⟨Nat.le_of_ble_eq_true rfl, Nat.le_of_ble_eq_true rfl⟩) [] [] rfl rfl (by decide) rfl rfl (Nat.le_of_ble_eq_true rfl) dL_changes_285 ⟨Nat.le_of_ble_eq_true rfl, Nat.le_of_ble_eq_true rfl⟩) (fun r12 _ hw11 => ?_)
    subst hw11
    refine z_sysi (wf := fun k288 => (sysD g a k288 x o j)) F (z_sysW (X := sysD g a ((inK k 0)) x o j) (Y := []) (st := []) F ((zEnvL_ok er D g dg ec fs fv qa sw sb sn xs)) E (fun sz => c_L_setHaircut l hl9 D g er dg ec fs fv qa sw sb sn xs a ((inK k 0)) x o j (f_some (v >>> (4 &&& 31)) 93) (hm) (hn) (hc9) sz) (vx_cwSW 2 F.1.2.2.2.2 gL_changes_L_setHaircut rfl rfl rfl (by decide +kernel) ⟨Nat.le_of_ble_eq_true rfl, Nat.le_of_ble_eq_true rfl⟩) (List.append_nil _).symm [] rfl rfl (by decide) rfl rfl (Nat.le_of_ble_eq_true rfl) dL_changes_288 ⟨Nat.le_of_ble_eq_true rfl, Nat.le_of_ble_eq_true rfl⟩) (List.append_nil _).symm (fun _ => rfl) (fun _ => List.append_nil _) (fun r288 k288 hw288 => ?_)
    refine z_if_lt (tgt := 298) F dL_changes_291 (by decide) (fun c13 => ?_) (fun c13 => ?_)
    · refine z_iconst (v := 0) F dL_changes_298 (by decide) ?_
      refine z_wide (k := 80) (n := 2200) (by first | exact Nat.le_of_ble_eq_true rfl | omega) (by first | exact Nat.le_of_ble_eq_true rfl | omega) ?_
      exact z_zret F hA hQ hlk hr (rfl) (k288, x, j) (⟨hnc, by rw [show k288 = (inK k 0) from (z_ansT hw288 (fun hf g => by rw [g.1]; exact hI.2.2.2.2) c13)]; exact z_chgN⟩) (rfl) dL_changes_299
    · refine z_iconst (v := 1) F dL_changes_294 (by decide) ?_
      refine z_goto (tgt := 299) F dL_changes_295 (by decide) ?_
      refine z_wide (k := 80) (n := 2200) (by first | exact Nat.le_of_ble_eq_true rfl | omega) (by first | exact Nat.le_of_ble_eq_true rfl | omega) ?_
      exact z_zret F hA hQ hlk hr (rfl) (k288, x, j) ((by obtain ⟨hf, -, g2⟩ := (z_ansF hw288 (fun _ => by decide) c13); exact ⟨hnc, Or.inl ⟨rfl, lHrc (kL k) (f_some (v >>> (4 &&& 31)) 93), zIv_hrc hI hf, g2⟩⟩)) (rfl) dL_changes_299
  have L300 : ∀ (a9 : Nat) (b9 : Nat) (m9 : Int32) (ha9 : a9 < 9) (hb9 : b9 < 9), zW p l e { frames := 10, cells := 80, slots := 2200, locals := 223 } s m args below meth c 5 D A Q 0 0 (sysD g a ((inK k 0)) x o j) [(0, .ref (a 0)), (1, .int v), (2, .int (nI a9)), (3, .int (nI b9)), (4, .int m9)] [] 300 := by
    intro a9 b9 m9 ha9 hb9
    refine z_aload_n F 0 dL_changes_300 rfl rfl ?_
    refine z_iload_n F 1 dL_changes_301 rfl rfl ?_
    refine z_bipush (v := 6) F dL_changes_302 (by decide) ?_
    refine z_ishr F dL_changes_304 ?_
    refine z_iconst (v := 1) F dL_changes_305 (by decide) ?_
    refine z_iand F dL_changes_306 ?_
    refine z_if_ne (tgt := 342) F dL_changes_307 (by decide) (fun c14 => ?_) (fun c14 => ?_)
    · refine z_new (C := RJ4) (T := TJ4) (N := 4) (ci := 1) (fs := [.null, .int 0, .int 0, .int 0]) (wf := fun n15 => (sysD g a ((inK k 0)) x o j ++ [(n15, .inr (1, [.null, .int 0, .int 0, .int 0]))])) F (fun w h => List.mem_cons_of_mem _ (List.mem_append_left _ (List.mem_append_left _ (List.mem_append_left _ (List.mem_append_left _ (List.mem_append_left _ (List.mem_append_left _ (List.mem_append_left _ (List.mem_append_left _ (List.mem_append_left _ (List.mem_append_left _ (List.mem_append_left _ (List.mem_append_left _ (List.mem_append_left _ (List.mem_append_right _ (h)))))))))))))))) tyJ4 tyJ4_ok (List.mem_cons_of_mem _ (List.mem_append_left _ (List.mem_append_left _ (List.mem_append_left _ (List.mem_append_left _ (List.mem_append_left _ (List.mem_append_left _ (List.mem_append_left _ (List.mem_append_left _ (List.mem_append_left _ (List.mem_append_left _ (List.mem_append_left _ (List.mem_append_left _ (List.mem_append_left _ (List.mem_append_left _ (List.mem_append_left _ (List.mem_of_getElem? (i := 0) rfl))))))))))))))))) (List.mem_cons_of_mem _ (List.mem_append_left _ (List.mem_append_left _ (List.mem_append_left _ (List.mem_append_left _ (List.mem_append_left _ (List.mem_append_left _ (List.mem_append_left _ (List.mem_append_left _ (List.mem_append_left _ (List.mem_append_left _ (List.mem_append_left _ (List.mem_append_left _ (List.mem_append_left _ (List.mem_append_left _ (List.mem_append_left _ (List.mem_of_getElem? (i := 1) rfl))))))))))))))))) (List.mem_cons_of_mem _ (List.mem_append_left _ (List.mem_append_left _ (List.mem_append_left _ (List.mem_append_left _ (List.mem_append_left _ (List.mem_append_left _ (List.mem_append_left _ (List.mem_append_left _ (List.mem_append_left _ (List.mem_append_left _ (List.mem_append_left _ (List.mem_append_left _ (List.mem_append_left _ (List.mem_append_left _ (List.mem_append_left _ (List.mem_of_getElem? (i := 2) rfl))))))))))))))))) rfl (by decide) (Nat.le_of_ble_eq_true rfl) (Nat.le_of_ble_eq_true rfl) (fun _ => rfl) dL_changes_342 (fun n15 => ?_)
      refine z_dup F dL_changes_345 rfl ?_
      refine z_Yv (X := (sysD g a ((inK k 0)) x o j)) (wn := []) (wf := fun u17 => [(n15, .inr (1, [.ref u17, .int 0, .int 0, .int 0])), (u17, .inl (g 3, 16, .inl ((zBy (fun _ => 0)))))]) F (z_runI (ret := none) (st := [.ref n15, .ref (a 0)]) F ((zJ_ok D g dg)) E.1.1.1.2 (fun sz => c_J4_init_da8c8 l D g dg n15 sz) (cwI 0 F.1.2.2.2.2 gL_changes_J4_init_da8c8 rfl rfl rfl (F.1.2.2.2.2 _ (List.mem_cons_of_mem _ (List.mem_append_left _ (List.mem_append_left _ (List.mem_append_left _ (List.mem_append_left _ (List.mem_append_left _ (List.mem_append_left _ (List.mem_append_left _ (List.mem_append_left _ (List.mem_append_left _ (List.mem_append_left _ (List.mem_append_left _ (List.mem_append_left _ (List.mem_append_left _ (List.mem_append_left _ (List.mem_append_left _ (List.mem_of_getElem? (i := 2) rfl)))))))))))))))))) (F.1.2.2.2.2 _ (List.mem_cons_of_mem _ (List.mem_append_left _ (List.mem_append_left _ (List.mem_append_left _ (List.mem_append_left _ (List.mem_append_left _ (List.mem_append_left _ (List.mem_append_left _ (List.mem_append_left _ (List.mem_append_left _ (List.mem_append_left _ (List.mem_append_left _ (List.mem_append_left _ (List.mem_append_left _ (List.mem_append_left _ (List.mem_append_right _ (List.mem_append_right _ (List.mem_append_right _ (List.mem_append_right _ (List.mem_append_right _ (List.mem_append_right _ (List.mem_append_right _ (List.mem_append_right _ (List.mem_append_right _ (List.mem_append_left _ (List.mem_of_getElem? (i := 20) rfl))))))))))))))))))))))))))) (F.1.2.2.2.2 _ (List.mem_cons_of_mem _ (List.mem_append_left _ (List.mem_append_left _ (List.mem_append_left _ (List.mem_append_left _ (List.mem_append_left _ (List.mem_append_left _ (List.mem_append_left _ (List.mem_append_left _ (List.mem_append_left _ (List.mem_append_left _ (List.mem_append_left _ (List.mem_append_left _ (List.mem_append_left _ (List.mem_append_left _ (List.mem_append_right _ (List.mem_append_right _ (List.mem_append_right _ (List.mem_append_right _ (List.mem_append_right _ (List.mem_append_right _ (List.mem_append_right _ (List.mem_append_right _ (List.mem_append_right _ (List.mem_append_left _ (List.mem_of_getElem? (i := 21) rfl))))))))))))))))))))))))))) rfl (by decide +kernel) ⟨Nat.le_of_ble_eq_true rfl, Nat.le_of_ble_eq_true rfl⟩) [96] [] rfl rfl (by decide) rfl rfl (Nat.le_of_ble_eq_true rfl) dL_changes_346 ⟨Nat.le_of_ble_eq_true rfl, Nat.le_of_ble_eq_true rfl⟩) rfl [0] [] [0, 1] rfl rfl (by decide) (by decide) (by decide) (fun _ => rfl) (fun u17 hw16 => ?_)
      clear hw16
      refine z_ldcsw F (a9 := fs 10) (E.2.1.2 2 _ rfl) dL_changes_349 ?_
      refine z_Ye (X := (sysD g a ((inK k 0)) x o j)) (wn := []) (wf := fun u19 => [(n15, .inr (1, [.ref u19.1, .int 0, .int 0, .int (nI (0 + f_fl 10))])), (u19.1, .inl (g 3, u19.2.1, .inl ((zBy u19.2.2))))]) F (z_runV (st := [.ref (a 0)]) F ((zJk_ok D g dg fs fv)) ⟨E.1.1.1.2, E.1.1.2.2.2.2.2⟩ (fun sz => k_J4_append_15ec4 l D g dg fs fv 10 n15 u17 0 0 16 (fun _ => 0) (by omega) (by omega) (by omega) (by omega) sz) (cwV 1 F.1.2.2.2.2 gL_changes_J4_append_15ec4 rfl rfl rfl (by decide +kernel) ⟨Nat.le_of_ble_eq_true rfl, Nat.le_of_ble_eq_true rfl⟩) 96 rfl rfl rfl [96, 97] [] rfl rfl (by decide) rfl rfl (Nat.le_of_ble_eq_true rfl) dL_changes_352 ⟨Nat.le_of_ble_eq_true rfl, Nat.le_of_ble_eq_true rfl⟩) rfl [0, 1] [] [0, 1] rfl rfl (by decide) (by decide) (by decide) (fun _ => rfl) (fun r20 u19 hw18 => ?_)
      obtain ⟨b9_352, c9_352, f9_352⟩ := u19
      obtain ⟨r352_, hcc_352, hc3_352, hcap_352⟩ := hw18
      try dsimp only at hcc_352
      try dsimp only at hc3_352
      try dsimp only at hcap_352
      subst r352_
      refine z_st (st' := [.ref n15, .ref (a 0)]) rfl ?_
      refine z_iload_n F 2 dL_changes_355 rfl rfl ?_
      refine z_Ye (X := (sysD g a ((inK k 0)) x o j)) (wn := []) (wf := fun u22 => [(n15, .inr (1, [.ref u22.1, .int 0, .int 0, .int (nI ((0 + f_fl 10) + f_sz (nI a9)))])), (u22.1, .inl (g 3, u22.2.1, .inl ((zBy u22.2.2))))]) F (z_runV (st := [.ref (a 0)]) F ((zJ_ok D g dg)) E.1.1.1.2 (fun sz => c_J4_append_bf812 l D g dg n15 b9_352 0 (0 + f_fl 10) c9_352 f9_352 (nI a9) (by omega) (by omega) (by omega) sz) (cwV 1 F.1.2.2.2.2 gL_changes_J4_append_bf812 rfl rfl rfl (by decide +kernel) ⟨Nat.le_of_ble_eq_true rfl, Nat.le_of_ble_eq_true rfl⟩) 96 rfl rfl rfl [96, 97] [] rfl rfl (by decide) rfl rfl (Nat.le_of_ble_eq_true rfl) dL_changes_356 ⟨Nat.le_of_ble_eq_true rfl, Nat.le_of_ble_eq_true rfl⟩) rfl [0, 1] [] [0, 1] rfl rfl (by decide) (by decide) (by decide) (fun _ => rfl) (fun r23 u22 hw21 => ?_)
      obtain ⟨b9_356, c9_356, f9_356⟩ := u22
      obtain ⟨r356_, hcc_356, hc3_356, hsame_356, hdig_356, hcap_356⟩ := hw21
      try dsimp only at hcc_356
      try dsimp only at hc3_356
      try dsimp only at hsame_356
      try dsimp only at hdig_356
      try dsimp only at hcap_356
      subst r356_
      refine z_st (st' := [.ref n15, .ref (a 0)]) rfl ?_
      have hz1 := z_sz9 ha9
      refine z_Yr (X := (sysD g a ((inK k 0)) x o j)) (wn := []) (wf := fun u25 a359_ => [(n15, .inr (1, [.ref b9_356, .int 0, .int 0, .int (nI ((0 + f_fl 10) + f_sz (nI a9)))])), (b9_356, .inl (g 3, c9_356, .inl ((zBy f9_356)))), (a359_, .inr (0, [.ref u25.1, .int 0, .int 0, .int 0])), (u25.1, .inl (g 3, (0 + f_fl 10) + f_sz (nI a9), .inl ((zBy u25.2))))]) F (z_runV (st := [.ref (a 0)]) F ((zJ_ok D g dg)) E.1.1.1.2 (fun sz => c_J4_toString_0e30d l D g dg n15 b9_356 0 ((0 + f_fl 10) + f_sz (nI a9)) c9_356 f9_356 (by omega) (by omega) sz) (cwV 0 F.1.2.2.2.2 gL_changes_J4_toString_0e30d rfl rfl rfl (by decide +kernel) ⟨Nat.le_of_ble_eq_true rfl, Nat.le_of_ble_eq_true rfl⟩) 96 rfl rfl rfl [96, 97] [] rfl rfl (by decide) rfl rfl (Nat.le_of_ble_eq_true rfl) dL_changes_359 ⟨Nat.le_of_ble_eq_true rfl, Nat.le_of_ble_eq_true rfl⟩) rfl [0, 1] [] [0, 1, 2, 3] rfl rfl (by decide) (by decide) (by decide) (fun _ _ => rfl) (fun u25 a359_ hw24 => ?_)
      clear hw24
      refine z_sysi (wf := fun u362 => (sysD g a u362.1 u362.2.1 o u362.2.2 ++ [(n15, .inr (1, [.ref b9_356, .int 0, .int 0, .int (nI ((0 + f_fl 10) + f_sz (nI a9)))])), (b9_356, .inl (g 3, c9_356, .inl ((zBy f9_356)))), (a359_, .inr (0, [.ref u25.1, .int 0, .int 0, .int 0])), (u25.1, .inl (g 3, (0 + f_fl 10) + f_sz (nI a9), .inl ((zBy u25.2))))])) F (z_sysS (X := sysD g a ((inK k 0)) x o j) (Y := [(n15, .inr (1, [.ref b9_356, .int 0, .int 0, .int (nI ((0 + f_fl 10) + f_sz (nI a9)))])), (b9_356, .inl (g 3, c9_356, .inl ((zBy f9_356)))), (a359_, .inr (0, [.ref u25.1, .int 0, .int 0, .int 0])), (u25.1, .inl (g 3, (0 + f_fl 10) + f_sz (nI a9), .inl ((zBy u25.2))))]) (st := []) F ((zEnvL_ok er D g dg ec fs fv qa sw sb sn xs)) E (fun sz => c_L_runs l hl9 D g er dg ec fs fv qa sw sb sn xs a ((inK k 0)) x o j a359_ u25.1 0 0 ((0 + f_fl 10) + f_sz (nI a9)) u25.2 (hm) (hnc) (hn) (hc9) (by omega) sz) (va_cwS 2 F.1.2.2.2.2 gL_changes_L_runs rfl rfl rfl (by decide +kernel) ⟨Nat.le_of_ble_eq_true rfl, Nat.le_of_ble_eq_true rfl⟩) rfl [98, 99] rfl rfl (by decide) rfl rfl (Nat.le_of_ble_eq_true rfl) dL_changes_362 ⟨Nat.le_of_ble_eq_true rfl, Nat.le_of_ble_eq_true rfl⟩) rfl (fun _ => rfl) (fun _ => rfl) (fun r362 u362 hw362 => ?_)
      obtain ⟨k362, x362, j362⟩ := u362
      try dsimp only at hw362
      refine z_ws (ws' := (sysD g a k362 x362 o j362 ++ [(n15, .inr (1, [.ref b9_356, .int 0, .int 0, .int (nI ((0 + f_fl 10) + f_sz (nI a9)))])), (b9_356, .inl (g 3, c9_356, .inl ((zBy f9_356)))), (a359_, .inr (0, [.ref u25.1, .int 0, .int 0, .int 0])), (u25.1, .inl (g 3, (0 + f_fl 10) + f_sz (nI a9), .inl ((zBy u25.2))))])) rfl ?_
      have hz362 := z_runC hI (by omega) hnc hw362.2
      refine z_if_lt (tgt := 372) F dL_changes_365 (by decide) (fun c26 => ?_) (fun c26 => ?_)
      · refine z_iconst (v := 0) F dL_changes_372 (by decide) ?_
        refine z_drop rfl ?_
        refine z_wide (k := 80) (n := 2200) (by first | exact Nat.le_of_ble_eq_true rfl | omega) (by first | exact Nat.le_of_ble_eq_true rfl | omega) ?_
        exact z_zret F hA hQ hlk hr (rfl) (k362, x362, j362) (⟨hz362.1, hz362.2.1 c26⟩) (rfl) dL_changes_373
      · refine z_iconst (v := 1) F dL_changes_368 (by decide) ?_
        refine z_goto (tgt := 373) F dL_changes_369 (by decide) ?_
        refine z_drop rfl ?_
        refine z_wide (k := 80) (n := 2200) (by first | exact Nat.le_of_ble_eq_true rfl | omega) (by first | exact Nat.le_of_ble_eq_true rfl | omega) ?_
        exact z_zret F hA hQ hlk hr (rfl) (k362, x362, j362) (⟨hz362.1, hz362.2.2 c26⟩) (rfl) dL_changes_373
    · refine z_new (C := RJ4) (T := TJ4) (N := 4) (ci := 1) (fs := [.null, .int 0, .int 0, .int 0]) (wf := fun n27 => (sysD g a ((inK k 0)) x o j ++ [(n27, .inr (1, [.null, .int 0, .int 0, .int 0]))])) F (fun w h => List.mem_cons_of_mem _ (List.mem_append_left _ (List.mem_append_left _ (List.mem_append_left _ (List.mem_append_left _ (List.mem_append_left _ (List.mem_append_left _ (List.mem_append_left _ (List.mem_append_left _ (List.mem_append_left _ (List.mem_append_left _ (List.mem_append_left _ (List.mem_append_left _ (List.mem_append_left _ (List.mem_append_right _ (h)))))))))))))))) tyJ4 tyJ4_ok (List.mem_cons_of_mem _ (List.mem_append_left _ (List.mem_append_left _ (List.mem_append_left _ (List.mem_append_left _ (List.mem_append_left _ (List.mem_append_left _ (List.mem_append_left _ (List.mem_append_left _ (List.mem_append_left _ (List.mem_append_left _ (List.mem_append_left _ (List.mem_append_left _ (List.mem_append_left _ (List.mem_append_left _ (List.mem_append_left _ (List.mem_of_getElem? (i := 0) rfl))))))))))))))))) (List.mem_cons_of_mem _ (List.mem_append_left _ (List.mem_append_left _ (List.mem_append_left _ (List.mem_append_left _ (List.mem_append_left _ (List.mem_append_left _ (List.mem_append_left _ (List.mem_append_left _ (List.mem_append_left _ (List.mem_append_left _ (List.mem_append_left _ (List.mem_append_left _ (List.mem_append_left _ (List.mem_append_left _ (List.mem_append_left _ (List.mem_of_getElem? (i := 1) rfl))))))))))))))))) (List.mem_cons_of_mem _ (List.mem_append_left _ (List.mem_append_left _ (List.mem_append_left _ (List.mem_append_left _ (List.mem_append_left _ (List.mem_append_left _ (List.mem_append_left _ (List.mem_append_left _ (List.mem_append_left _ (List.mem_append_left _ (List.mem_append_left _ (List.mem_append_left _ (List.mem_append_left _ (List.mem_append_left _ (List.mem_append_left _ (List.mem_of_getElem? (i := 2) rfl))))))))))))))))) rfl (by decide) (Nat.le_of_ble_eq_true rfl) (Nat.le_of_ble_eq_true rfl) (fun _ => rfl) dL_changes_310 (fun n27 => ?_)
      refine z_dup F dL_changes_313 rfl ?_
      refine z_Yv (X := (sysD g a ((inK k 0)) x o j)) (wn := []) (wf := fun u29 => [(n27, .inr (1, [.ref u29, .int 0, .int 0, .int 0])), (u29, .inl (g 3, 16, .inl ((zBy (fun _ => 0)))))]) F (z_runI (ret := none) (st := [.ref n27, .ref (a 0)]) F ((zJ_ok D g dg)) E.1.1.1.2 (fun sz => c_J4_init_da8c8 l D g dg n27 sz) (cwI 0 F.1.2.2.2.2 gL_changes_J4_init_da8c8 rfl rfl rfl (F.1.2.2.2.2 _ (List.mem_cons_of_mem _ (List.mem_append_left _ (List.mem_append_left _ (List.mem_append_left _ (List.mem_append_left _ (List.mem_append_left _ (List.mem_append_left _ (List.mem_append_left _ (List.mem_append_left _ (List.mem_append_left _ (List.mem_append_left _ (List.mem_append_left _ (List.mem_append_left _ (List.mem_append_left _ (List.mem_append_left _ (List.mem_append_left _ (List.mem_of_getElem? (i := 2) rfl)))))))))))))))))) (F.1.2.2.2.2 _ (List.mem_cons_of_mem _ (List.mem_append_left _ (List.mem_append_left _ (List.mem_append_left _ (List.mem_append_left _ (List.mem_append_left _ (List.mem_append_left _ (List.mem_append_left _ (List.mem_append_left _ (List.mem_append_left _ (List.mem_append_left _ (List.mem_append_left _ (List.mem_append_left _ (List.mem_append_left _ (List.mem_append_left _ (List.mem_append_right _ (List.mem_append_right _ (List.mem_append_right _ (List.mem_append_right _ (List.mem_append_right _ (List.mem_append_right _ (List.mem_append_right _ (List.mem_append_right _ (List.mem_append_right _ (List.mem_append_left _ (List.mem_of_getElem? (i := 20) rfl))))))))))))))))))))))))))) (F.1.2.2.2.2 _ (List.mem_cons_of_mem _ (List.mem_append_left _ (List.mem_append_left _ (List.mem_append_left _ (List.mem_append_left _ (List.mem_append_left _ (List.mem_append_left _ (List.mem_append_left _ (List.mem_append_left _ (List.mem_append_left _ (List.mem_append_left _ (List.mem_append_left _ (List.mem_append_left _ (List.mem_append_left _ (List.mem_append_left _ (List.mem_append_right _ (List.mem_append_right _ (List.mem_append_right _ (List.mem_append_right _ (List.mem_append_right _ (List.mem_append_right _ (List.mem_append_right _ (List.mem_append_right _ (List.mem_append_right _ (List.mem_append_left _ (List.mem_of_getElem? (i := 21) rfl))))))))))))))))))))))))))) rfl (by decide +kernel) ⟨Nat.le_of_ble_eq_true rfl, Nat.le_of_ble_eq_true rfl⟩) [96] [] rfl rfl (by decide) rfl rfl (Nat.le_of_ble_eq_true rfl) dL_changes_314 ⟨Nat.le_of_ble_eq_true rfl, Nat.le_of_ble_eq_true rfl⟩) rfl [0] [] [0, 1] rfl rfl (by decide) (by decide) (by decide) (fun _ => rfl) (fun u29 hw28 => ?_)
      clear hw28
      refine z_ldcs F (a9 := fs 8) (E.2.1.2 0 _ rfl) dL_changes_317 ?_
      refine z_Ye (X := (sysD g a ((inK k 0)) x o j)) (wn := []) (wf := fun u31 => [(n27, .inr (1, [.ref u31.1, .int 0, .int 0, .int (nI (0 + f_fl 8))])), (u31.1, .inl (g 3, u31.2.1, .inl ((zBy u31.2.2))))]) F (z_runV (st := [.ref (a 0)]) F ((zJk_ok D g dg fs fv)) ⟨E.1.1.1.2, E.1.1.2.2.2.2.2⟩ (fun sz => k_J4_append_15ec4 l D g dg fs fv 8 n27 u29 0 0 16 (fun _ => 0) (by omega) (by omega) (by omega) (by omega) sz) (cwV 1 F.1.2.2.2.2 gL_changes_J4_append_15ec4 rfl rfl rfl (by decide +kernel) ⟨Nat.le_of_ble_eq_true rfl, Nat.le_of_ble_eq_true rfl⟩) 96 rfl rfl rfl [96, 97] [] rfl rfl (by decide) rfl rfl (Nat.le_of_ble_eq_true rfl) dL_changes_319 ⟨Nat.le_of_ble_eq_true rfl, Nat.le_of_ble_eq_true rfl⟩) rfl [0, 1] [] [0, 1] rfl rfl (by decide) (by decide) (by decide) (fun _ => rfl) (fun r32 u31 hw30 => ?_)
      obtain ⟨b9_319, c9_319, f9_319⟩ := u31
      obtain ⟨r319_, hcc_319, hc3_319, hcap_319⟩ := hw30
      try dsimp only at hcc_319
      try dsimp only at hc3_319
      try dsimp only at hcap_319
      subst r319_
      refine z_st (st' := [.ref n27, .ref (a 0)]) rfl ?_
      refine z_iload_n F 2 dL_changes_322 rfl rfl ?_
      refine z_Ye (X := (sysD g a ((inK k 0)) x o j)) (wn := []) (wf := fun u34 => [(n27, .inr (1, [.ref u34.1, .int 0, .int 0, .int (nI ((0 + f_fl 8) + f_sz (nI a9)))])), (u34.1, .inl (g 3, u34.2.1, .inl ((zBy u34.2.2))))]) F (z_runV (st := [.ref (a 0)]) F ((zJ_ok D g dg)) E.1.1.1.2 (fun sz => c_J4_append_bf812 l D g dg n27 b9_319 0 (0 + f_fl 8) c9_319 f9_319 (nI a9) (by omega) (by omega) (by omega) sz) (cwV 1 F.1.2.2.2.2 gL_changes_J4_append_bf812 rfl rfl rfl (by decide +kernel) ⟨Nat.le_of_ble_eq_true rfl, Nat.le_of_ble_eq_true rfl⟩) 96 rfl rfl rfl [96, 97] [] rfl rfl (by decide) rfl rfl (Nat.le_of_ble_eq_true rfl) dL_changes_323 ⟨Nat.le_of_ble_eq_true rfl, Nat.le_of_ble_eq_true rfl⟩) rfl [0, 1] [] [0, 1] rfl rfl (by decide) (by decide) (by decide) (fun _ => rfl) (fun r35 u34 hw33 => ?_)
      obtain ⟨b9_323, c9_323, f9_323⟩ := u34
      obtain ⟨r323_, hcc_323, hc3_323, hsame_323, hdig_323, hcap_323⟩ := hw33
      try dsimp only at hcc_323
      try dsimp only at hc3_323
      try dsimp only at hsame_323
      try dsimp only at hdig_323
      try dsimp only at hcap_323
      subst r323_
      refine z_st (st' := [.ref n27, .ref (a 0)]) rfl ?_
      have hz1 := z_sz9 ha9
      refine z_ldcsw F (a9 := fs 9) (E.2.1.2 1 _ rfl) dL_changes_326 ?_
      refine z_Ye (X := (sysD g a ((inK k 0)) x o j)) (wn := []) (wf := fun u37 => [(n27, .inr (1, [.ref u37.1, .int 0, .int 0, .int (nI (((0 + f_fl 8) + f_sz (nI a9)) + f_fl 9))])), (u37.1, .inl (g 3, u37.2.1, .inl ((zBy u37.2.2))))]) F (z_runV (st := [.ref (a 0)]) F ((zJk_ok D g dg fs fv)) ⟨E.1.1.1.2, E.1.1.2.2.2.2.2⟩ (fun sz => k_J4_append_15ec4 l D g dg fs fv 9 n27 b9_323 0 ((0 + f_fl 8) + f_sz (nI a9)) c9_323 f9_323 (by omega) (by omega) (by omega) (by omega) sz) (cwV 1 F.1.2.2.2.2 gL_changes_J4_append_15ec4 rfl rfl rfl (by decide +kernel) ⟨Nat.le_of_ble_eq_true rfl, Nat.le_of_ble_eq_true rfl⟩) 96 rfl rfl rfl [96, 97] [] rfl rfl (by decide) rfl rfl (Nat.le_of_ble_eq_true rfl) dL_changes_329 ⟨Nat.le_of_ble_eq_true rfl, Nat.le_of_ble_eq_true rfl⟩) rfl [0, 1] [] [0, 1] rfl rfl (by decide) (by decide) (by decide) (fun _ => rfl) (fun r38 u37 hw36 => ?_)
      obtain ⟨b9_329, c9_329, f9_329⟩ := u37
      obtain ⟨r329_, hcc_329, hc3_329, hcap_329⟩ := hw36
      try dsimp only at hcc_329
      try dsimp only at hc3_329
      try dsimp only at hcap_329
      subst r329_
      refine z_st (st' := [.ref n27, .ref (a 0)]) rfl ?_
      refine z_iload_n F 3 dL_changes_332 rfl rfl ?_
      refine z_Ye (X := (sysD g a ((inK k 0)) x o j)) (wn := []) (wf := fun u40 => [(n27, .inr (1, [.ref u40.1, .int 0, .int 0, .int (nI ((((0 + f_fl 8) + f_sz (nI a9)) + f_fl 9) + f_sz (nI b9)))])), (u40.1, .inl (g 3, u40.2.1, .inl ((zBy u40.2.2))))]) F (z_runV (st := [.ref (a 0)]) F ((zJ_ok D g dg)) E.1.1.1.2 (fun sz => c_J4_append_bf812 l D g dg n27 b9_329 0 (((0 + f_fl 8) + f_sz (nI a9)) + f_fl 9) c9_329 f9_329 (nI b9) (by omega) (by omega) (by omega) sz) (cwV 1 F.1.2.2.2.2 gL_changes_J4_append_bf812 rfl rfl rfl (by decide +kernel) ⟨Nat.le_of_ble_eq_true rfl, Nat.le_of_ble_eq_true rfl⟩) 96 rfl rfl rfl [96, 97] [] rfl rfl (by decide) rfl rfl (Nat.le_of_ble_eq_true rfl) dL_changes_333 ⟨Nat.le_of_ble_eq_true rfl, Nat.le_of_ble_eq_true rfl⟩) rfl [0, 1] [] [0, 1] rfl rfl (by decide) (by decide) (by decide) (fun _ => rfl) (fun r41 u40 hw39 => ?_)
      obtain ⟨b9_333, c9_333, f9_333⟩ := u40
      obtain ⟨r333_, hcc_333, hc3_333, hsame_333, hdig_333, hcap_333⟩ := hw39
      try dsimp only at hcc_333
      try dsimp only at hc3_333
      try dsimp only at hsame_333
      try dsimp only at hdig_333
      try dsimp only at hcap_333
      subst r333_
      refine z_st (st' := [.ref n27, .ref (a 0)]) rfl ?_
      have hz2 := z_sz9 hb9
      refine z_Yr (X := (sysD g a ((inK k 0)) x o j)) (wn := []) (wf := fun u43 a336_ => [(n27, .inr (1, [.ref b9_333, .int 0, .int 0, .int (nI ((((0 + f_fl 8) + f_sz (nI a9)) + f_fl 9) + f_sz (nI b9)))])), (b9_333, .inl (g 3, c9_333, .inl ((zBy f9_333)))), (a336_, .inr (0, [.ref u43.1, .int 0, .int 0, .int 0])), (u43.1, .inl (g 3, (((0 + f_fl 8) + f_sz (nI a9)) + f_fl 9) + f_sz (nI b9), .inl ((zBy u43.2))))]) F (z_runV (st := [.ref (a 0)]) F ((zJ_ok D g dg)) E.1.1.1.2 (fun sz => c_J4_toString_0e30d l D g dg n27 b9_333 0 ((((0 + f_fl 8) + f_sz (nI a9)) + f_fl 9) + f_sz (nI b9)) c9_333 f9_333 (by omega) (by omega) sz) (cwV 0 F.1.2.2.2.2 gL_changes_J4_toString_0e30d rfl rfl rfl (by decide +kernel) ⟨Nat.le_of_ble_eq_true rfl, Nat.le_of_ble_eq_true rfl⟩) 96 rfl rfl rfl [96, 97] [] rfl rfl (by decide) rfl rfl (Nat.le_of_ble_eq_true rfl) dL_changes_336 ⟨Nat.le_of_ble_eq_true rfl, Nat.le_of_ble_eq_true rfl⟩) rfl [0, 1] [] [0, 1, 2, 3] rfl rfl (by decide) (by decide) (by decide) (fun _ _ => rfl) (fun u43 a336_ hw42 => ?_)
      clear hw42
      refine z_goto (tgt := 362) F dL_changes_339 (by decide) ?_
      refine z_sysi (wf := fun u362 => (sysD g a u362.1 u362.2.1 o u362.2.2 ++ [(n27, .inr (1, [.ref b9_333, .int 0, .int 0, .int (nI ((((0 + f_fl 8) + f_sz (nI a9)) + f_fl 9) + f_sz (nI b9)))])), (b9_333, .inl (g 3, c9_333, .inl ((zBy f9_333)))), (a336_, .inr (0, [.ref u43.1, .int 0, .int 0, .int 0])), (u43.1, .inl (g 3, (((0 + f_fl 8) + f_sz (nI a9)) + f_fl 9) + f_sz (nI b9), .inl ((zBy u43.2))))])) F (z_sysS (X := sysD g a ((inK k 0)) x o j) (Y := [(n27, .inr (1, [.ref b9_333, .int 0, .int 0, .int (nI ((((0 + f_fl 8) + f_sz (nI a9)) + f_fl 9) + f_sz (nI b9)))])), (b9_333, .inl (g 3, c9_333, .inl ((zBy f9_333)))), (a336_, .inr (0, [.ref u43.1, .int 0, .int 0, .int 0])), (u43.1, .inl (g 3, (((0 + f_fl 8) + f_sz (nI a9)) + f_fl 9) + f_sz (nI b9), .inl ((zBy u43.2))))]) (st := []) F ((zEnvL_ok er D g dg ec fs fv qa sw sb sn xs)) E (fun sz => c_L_runs l hl9 D g er dg ec fs fv qa sw sb sn xs a ((inK k 0)) x o j a336_ u43.1 0 0 ((((0 + f_fl 8) + f_sz (nI a9)) + f_fl 9) + f_sz (nI b9)) u43.2 (hm) (hnc) (hn) (hc9) (by omega) sz) (va_cwS 2 F.1.2.2.2.2 gL_changes_L_runs rfl rfl rfl (by decide +kernel) ⟨Nat.le_of_ble_eq_true rfl, Nat.le_of_ble_eq_true rfl⟩) rfl [98, 99] rfl rfl (by decide) rfl rfl (Nat.le_of_ble_eq_true rfl) dL_changes_362 ⟨Nat.le_of_ble_eq_true rfl, Nat.le_of_ble_eq_true rfl⟩) rfl (fun _ => rfl) (fun _ => rfl) (fun r362 u362 hw362 => ?_)
      obtain ⟨k362, x362, j362⟩ := u362
      try dsimp only at hw362
      refine z_ws (ws' := (sysD g a k362 x362 o j362 ++ [(n27, .inr (1, [.ref b9_333, .int 0, .int 0, .int (nI ((((0 + f_fl 8) + f_sz (nI a9)) + f_fl 9) + f_sz (nI b9)))])), (b9_333, .inl (g 3, c9_333, .inl ((zBy f9_333)))), (a336_, .inr (0, [.ref u43.1, .int 0, .int 0, .int 0])), (u43.1, .inl (g 3, (((0 + f_fl 8) + f_sz (nI a9)) + f_fl 9) + f_sz (nI b9), .inl ((zBy u43.2))))])) rfl ?_
      have hz362 := z_runC hI (by omega) hnc hw362.2
      refine z_if_lt (tgt := 372) F dL_changes_365 (by decide) (fun c44 => ?_) (fun c44 => ?_)
      · refine z_iconst (v := 0) F dL_changes_372 (by decide) ?_
        refine z_drop rfl ?_
        refine z_wide (k := 80) (n := 2200) (by first | exact Nat.le_of_ble_eq_true rfl | omega) (by first | exact Nat.le_of_ble_eq_true rfl | omega) ?_
        exact z_zret F hA hQ hlk hr (rfl) (k362, x362, j362) (⟨hz362.1, hz362.2.1 c44⟩) (rfl) dL_changes_373
      · refine z_iconst (v := 1) F dL_changes_368 (by decide) ?_
        refine z_goto (tgt := 373) F dL_changes_369 (by decide) ?_
        refine z_drop rfl ?_
        refine z_wide (k := 80) (n := 2200) (by first | exact Nat.le_of_ble_eq_true rfl | omega) (by first | exact Nat.le_of_ble_eq_true rfl | omega) ?_
        exact z_zret F hA hQ hlk hr (rfl) (k362, x362, j362) (⟨hz362.1, hz362.2.2 c44⟩) (rfl) dL_changes_373
  have L374 : ∀ (a9 : Nat) (b9 : Nat) (m9 : Int32) (ha9 : a9 < 9) (hb9 : b9 < 9), zW p l e { frames := 10, cells := 80, slots := 2200, locals := 223 } s m args below meth c 5 D A Q 0 0 (sysD g a ((inK k 0)) x o j) [(0, .ref (a 0)), (1, .int v), (2, .int (nI a9)), (3, .int (nI b9)), (4, .int m9)] [] 374 := by
    intro a9 b9 m9 ha9 hb9
    refine z_aload_n F 0 dL_changes_374 rfl rfl ?_
    refine z_iload_n F 2 dL_changes_375 rfl rfl ?_
    refine z_sysi (wf := fun u376 => (sysD g a u376.1 x o u376.2)) F (z_sysW (X := sysD g a ((inK k 0)) x o j) (Y := []) (st := []) F ((zEnvL_ok er D g dg ec fs fv qa sw sb sn xs)) E (fun sz => c_L_fail l hl9 D g er dg ec fs fv qa sw sb sn xs a ((inK k 0)) x o j (nI a9) (hm) (hn) (hc9) sz) (vx_cwSW 2 F.1.2.2.2.2 gL_changes_L_fail rfl rfl rfl (by decide +kernel) ⟨Nat.le_of_ble_eq_true rfl, Nat.le_of_ble_eq_true rfl⟩) (List.append_nil _).symm [] rfl rfl (by decide) rfl rfl (Nat.le_of_ble_eq_true rfl) dL_changes_376 ⟨Nat.le_of_ble_eq_true rfl, Nat.le_of_ble_eq_true rfl⟩) (List.append_nil _).symm (fun _ => rfl) (fun _ => List.append_nil _) (fun r376 u376 hw376 => ?_)
    obtain ⟨k376, j376⟩ := u376
    try dsimp only at hw376
    refine z_ws (ws' := (sysD g a k376 x o j376)) rfl ?_
    refine z_if_lt (tgt := 386) F dL_changes_379 (by decide) (fun c45 => ?_) (fun c45 => ?_)
    · refine z_iconst (v := 0) F dL_changes_386 (by decide) ?_
      refine z_wide (k := 80) (n := 2200) (by first | exact Nat.le_of_ble_eq_true rfl | omega) (by first | exact Nat.le_of_ble_eq_true rfl | omega) ?_
      exact z_zret F hA hQ hlk hr (rfl) (k376, x, j376) (⟨by rw [show j376 = j from congrArg Prod.snd (z_ansT hw376 (fun hf g => by rw [g.1]; exact Int.le_of_lt (zIv_fal (jrm j) hI hf).2) c45)]; exact hnc, by rw [show k376 = (inK k 0) from congrArg Prod.fst (z_ansT hw376 (fun hf g => by rw [g.1]; exact Int.le_of_lt (zIv_fal (jrm j) hI hf).2) c45)]; exact z_chgN⟩) (rfl) dL_changes_387
    · refine z_iconst (v := 1) F dL_changes_382 (by decide) ?_
      refine z_goto (tgt := 387) F dL_changes_383 (by decide) ?_
      refine z_wide (k := 80) (n := 2200) (by first | exact Nat.le_of_ble_eq_true rfl | omega) (by first | exact Nat.le_of_ble_eq_true rfl | omega) ?_
      exact z_zret F hA hQ hlk hr (rfl) (k376, x, j376) ((by obtain ⟨hf, -, g2, g3⟩ := (z_ansF hw376 (fun f9 => by (repeat' split) <;> decide) c45); refine ⟨?_, Or.inl ⟨rfl, lFal (kL k) (jrm j) (nI a9), (zIv_fal (jrm j) hI hf).1, g2⟩⟩; show jnc j376 ≤ 3; rw [show j376 = _ from g3]; exact hnc)) (rfl) dL_changes_387
  have L140 : ∀ (a9 : Nat) (b9 : Nat) (m9 : Int32) (ha9 : a9 < 9) (hb9 : b9 < 9), zW p l e { frames := 10, cells := 80, slots := 2200, locals := 223 } s m args below meth c 5 D A Q 0 0 (sysD g a ((inK k 0)) x o j) [(0, .ref (a 0)), (1, .int v), (2, .int (nI a9)), (3, .int (nI b9)), (4, .int m9)] [] 140 := by
    intro a9 b9 m9 ha9 hb9
    refine z_aload_n F 0 dL_changes_140 rfl rfl ?_
    refine z_sysi (wf := fun k141 => (sysD g a k141 x o j)) F (z_sysW (X := sysD g a ((inK k 0)) x o j) (Y := []) (st := []) F ((zEnvL_ok er D g dg ec fs fv qa sw sb sn xs)) E (fun sz => c_L_addMember l hl9 D g er dg ec fs fv qa sw sb sn xs a ((inK k 0)) x o j (hm) (hn) (hc9) sz) (vx_cwSW 1 F.1.2.2.2.2 gL_changes_L_addMember rfl rfl rfl (by decide +kernel) ⟨Nat.le_of_ble_eq_true rfl, Nat.le_of_ble_eq_true rfl⟩) (List.append_nil _).symm [] rfl rfl (by decide) rfl rfl (Nat.le_of_ble_eq_true rfl) dL_changes_141 ⟨Nat.le_of_ble_eq_true rfl, Nat.le_of_ble_eq_true rfl⟩) (List.append_nil _).symm (fun _ => rfl) (fun _ => List.append_nil _) (fun r141 k141 hw141 => ?_)
    refine z_if_lt (tgt := 151) F dL_changes_144 (by decide) (fun c46 => ?_) (fun c46 => ?_)
    · refine z_iconst (v := 0) F dL_changes_151 (by decide) ?_
      refine z_wide (k := 80) (n := 2200) (by first | exact Nat.le_of_ble_eq_true rfl | omega) (by first | exact Nat.le_of_ble_eq_true rfl | omega) ?_
      exact z_zret F hA hQ hlk hr (rfl) (k141, x, j) (⟨hnc, by rw [show k141 = (inK k 0) from (z_ansT hw141 (fun hf g => by rw [g.1]; show 0 ≤ (nI (lMc (kL k))).toInt; rw [nI_toInt (Nat.lt_of_le_of_lt hI.1.2 (by decide))]; exact Int.natCast_nonneg _) c46)]; exact z_chgN⟩) (rfl) dL_changes_152
    · refine z_iconst (v := 1) F dL_changes_147 (by decide) ?_
      refine z_goto (tgt := 152) F dL_changes_148 (by decide) ?_
      refine z_wide (k := 80) (n := 2200) (by first | exact Nat.le_of_ble_eq_true rfl | omega) (by first | exact Nat.le_of_ble_eq_true rfl | omega) ?_
      exact z_zret F hA hQ hlk hr (rfl) (k141, x, j) ((by obtain ⟨hf, -, g2⟩ := (z_ansF hw141 (fun _ => by decide) c46); exact ⟨hnc, Or.inl ⟨rfl, lJoin (kL k), zIv_join hI hf, g2⟩⟩)) (rfl) dL_changes_152
  have L226 : ∀ (a9 : Nat) (b9 : Nat) (m9 : Int32) (ha9 : a9 < 9) (hb9 : b9 < 9), zW p l e { frames := 10, cells := 80, slots := 2200, locals := 223 } s m args below meth c 5 D A Q 0 0 (sysD g a ((inK k 0)) x o j) [(0, .ref (a 0)), (1, .int v), (2, .int (nI a9)), (3, .int (nI b9)), (4, .int m9)] [] 226 := by
    intro a9 b9 m9 ha9 hb9
    refine z_aload_n F 0 dL_changes_226 rfl rfl ?_
    refine z_sysi (wf := fun j227 => (sysD g a ((pushK ((inK k 0)) (lClr (kL ((inK k 0)))))) x o j227)) F (z_sysV (X := sysD g a ((inK k 0)) x o j) (Y := []) (st := []) F ((zEnvL_ok er D g dg ec fs fv qa sw sb sn xs)) E (fun sz => c_sys_clearAll l D g er dg ec fs fv qa sw sb sn xs a ((inK k 0)) x o j (hm) (hn) (hc9) sz) (cwV 0 F.1.2.2.2.2 gL_changes_X10_clearAll rfl rfl rfl (by decide +kernel) ⟨Nat.le_of_ble_eq_true rfl, Nat.le_of_ble_eq_true rfl⟩) 0 rfl rfl rfl (List.append_nil _).symm [] rfl rfl (by decide) rfl rfl (Nat.le_of_ble_eq_true rfl) dL_changes_227 ⟨Nat.le_of_ble_eq_true rfl, Nat.le_of_ble_eq_true rfl⟩) (List.append_nil _).symm (fun _ => rfl) (fun _ => List.append_nil _) (fun r227 j227 hw227 => ?_)
    refine z_if_lt (tgt := 237) F dL_changes_230 (by decide) (fun c47 => ?_) (fun c47 => ?_)
    · exact absurd c47 (by rw [hw227.1]; exact nI_pos (Nat.lt_of_le_of_lt (f_clF_cnt 8 _ _ _ 0) (by decide)))
    · refine z_iconst (v := 1) F dL_changes_233 (by decide) ?_
      refine z_goto (tgt := 238) F dL_changes_234 (by decide) ?_
      refine z_wide (k := 80) (n := 2200) (by first | exact Nat.le_of_ble_eq_true rfl | omega) (by first | exact Nat.le_of_ble_eq_true rfl | omega) ?_
      exact z_zret F hA hQ hlk hr (rfl) ((pushK ((inK k 0)) (lClr (kL ((inK k 0))))), x, j227) (⟨by rw [hw227.2]; exact hnc, Or.inl ⟨rfl, _, zIv_clr hI, rfl⟩⟩) (rfl) dL_changes_238
  have L39 : ∀ (a9 : Nat) (b9 : Nat) (n9 : Int32) (ha9 : a9 < 9) (hb9 : b9 < 9) (hn9 : ¬ n9 = 0), zW p l e { frames := 10, cells := 80, slots := 2200, locals := 223 } s m args below meth c 5 D A Q 0 0 (sysD g a ((inK k 0)) x o j) [(0, .ref (a 0)), (1, .int v), (2, .int (nI a9)), (3, .int (nI b9))] [.int n9, .int (v >>> (10 &&& 31))] 39 := by
    intro a9 b9 n9 ha9 hb9 hn9
    refine z_calli0 F (z_runS (st := []) F zNo_ok trivial (fun sz => c_L_some l D g (v >>> (10 &&& 31)) n9 (hn9) sz) (va_cwS 2 F.1.2.2.2.2 gL_changes_L_some rfl rfl rfl (by decide +kernel) ⟨Nat.le_of_ble_eq_true rfl, Nat.le_of_ble_eq_true rfl⟩) [] [] rfl rfl (by decide) rfl rfl (Nat.le_of_ble_eq_true rfl) dL_changes_39 ⟨Nat.le_of_ble_eq_true rfl, Nat.le_of_ble_eq_true rfl⟩) (fun r49 _ hw48 => ?_)
    subst hw48
    refine z_istore (lv' := [(4, .int (f_some (v >>> (10 &&& 31)) n9)), (0, .ref (a 0)), (1, .int v), (2, .int (nI a9)), (3, .int (nI b9))]) F dL_changes_42 (by decide) rfl ?_
    refine z_iload_n F 2 dL_changes_44 rfl rfl ?_
    refine z_bipush (v := 24) F dL_changes_45 (by decide) ?_
    refine z_calli0 F (z_runS (st := []) F zNo_ok trivial (fun sz => c_L_some l D g v 24 ((by decide)) sz) (va_cwS 2 F.1.2.2.2.2 gL_changes_L_some rfl rfl rfl (by decide +kernel) ⟨Nat.le_of_ble_eq_true rfl, Nat.le_of_ble_eq_true rfl⟩) [] [] rfl rfl (by decide) rfl rfl (Nat.le_of_ble_eq_true rfl) dL_changes_47 ⟨Nat.le_of_ble_eq_true rfl, Nat.le_of_ble_eq_true rfl⟩) (fun r51 _ hw50 => ?_)
    subst hw50
    obtain ⟨t9, ht9, et9⟩ := f_some_lt v (n := 24) (by decide) (by decide)
    refine z_top (y := nI t9) (et9) ?_
    rcases (by omega : t9 = 0 ∨ t9 = 1 ∨ t9 = 2 ∨ t9 = 3 ∨ t9 = 4 ∨ t9 = 5 ∨ t9 = 6 ∨ t9 = 7 ∨ t9 = 8 ∨ t9 = 9 ∨ t9 = 10 ∨ t9 = 11 ∨ t9 = 12 ∨ t9 = 13 ∨ t9 = 14 ∨ t9 = 15 ∨ t9 = 16 ∨ t9 = 17 ∨ t9 = 18 ∨ t9 = 19 ∨ t9 = 20 ∨ t9 = 21 ∨ t9 = 22 ∨ t9 = 23) with rfl | rfl | rfl | rfl | rfl | rfl | rfl | rfl | rfl | rfl | rfl | rfl | rfl | rfl | rfl | rfl | rfl | rfl | rfl | rfl | rfl | rfl | rfl | rfl
    · refine z_tabIn (off := 90) (tgt := 140) F dL_changes_50 (by decide) (by decide) (by decide) (by decide) ?_
      refine z_loc (lv' := [(0, .ref (a 0)), (1, .int v), (2, .int (nI a9)), (3, .int (nI b9)), (4, .int (f_some (v >>> (10 &&& 31)) n9))]) [1, 2, 3, 4, 0] rfl ?_
      exact L140 a9 b9 (f_some (v >>> (10 &&& 31)) n9) (by assumption) (by assumption)
    · refine z_tabIn (off := 103) (tgt := 153) F dL_changes_50 (by decide) (by decide) (by decide) (by decide) ?_
      refine z_loc (lv' := [(0, .ref (a 0)), (1, .int v), (2, .int (nI a9)), (3, .int (nI b9)), (4, .int (f_some (v >>> (10 &&& 31)) n9))]) [1, 2, 3, 4, 0] rfl ?_
      exact L153 a9 b9 (f_some (v >>> (10 &&& 31)) n9) (by assumption) (by assumption)
    · refine z_tabIn (off := 103) (tgt := 153) F dL_changes_50 (by decide) (by decide) (by decide) (by decide) ?_
      refine z_loc (lv' := [(0, .ref (a 0)), (1, .int v), (2, .int (nI a9)), (3, .int (nI b9)), (4, .int (f_some (v >>> (10 &&& 31)) n9))]) [1, 2, 3, 4, 0] rfl ?_
      exact L153 a9 b9 (f_some (v >>> (10 &&& 31)) n9) (by assumption) (by assumption)
    · refine z_tabIn (off := 103) (tgt := 153) F dL_changes_50 (by decide) (by decide) (by decide) (by decide) ?_
      refine z_loc (lv' := [(0, .ref (a 0)), (1, .int v), (2, .int (nI a9)), (3, .int (nI b9)), (4, .int (f_some (v >>> (10 &&& 31)) n9))]) [1, 2, 3, 4, 0] rfl ?_
      exact L153 a9 b9 (f_some (v >>> (10 &&& 31)) n9) (by assumption) (by assumption)
    · refine z_tabIn (off := 103) (tgt := 153) F dL_changes_50 (by decide) (by decide) (by decide) (by decide) ?_
      refine z_loc (lv' := [(0, .ref (a 0)), (1, .int v), (2, .int (nI a9)), (3, .int (nI b9)), (4, .int (f_some (v >>> (10 &&& 31)) n9))]) [1, 2, 3, 4, 0] rfl ?_
      exact L153 a9 b9 (f_some (v >>> (10 &&& 31)) n9) (by assumption) (by assumption)
    · refine z_tabIn (off := 120) (tgt := 170) F dL_changes_50 (by decide) (by decide) (by decide) (by decide) ?_
      refine z_loc (lv' := [(0, .ref (a 0)), (1, .int v), (2, .int (nI a9)), (3, .int (nI b9)), (4, .int (f_some (v >>> (10 &&& 31)) n9))]) [1, 2, 3, 4, 0] rfl ?_
      exact L170 a9 b9 (f_some (v >>> (10 &&& 31)) n9) (by assumption) (by assumption)
    · refine z_tabIn (off := 120) (tgt := 170) F dL_changes_50 (by decide) (by decide) (by decide) (by decide) ?_
      refine z_loc (lv' := [(0, .ref (a 0)), (1, .int v), (2, .int (nI a9)), (3, .int (nI b9)), (4, .int (f_some (v >>> (10 &&& 31)) n9))]) [1, 2, 3, 4, 0] rfl ?_
      exact L170 a9 b9 (f_some (v >>> (10 &&& 31)) n9) (by assumption) (by assumption)
    · refine z_tabIn (off := 137) (tgt := 187) F dL_changes_50 (by decide) (by decide) (by decide) (by decide) ?_
      refine z_loc (lv' := [(0, .ref (a 0)), (1, .int v), (2, .int (nI a9)), (3, .int (nI b9)), (4, .int (f_some (v >>> (10 &&& 31)) n9))]) [1, 2, 3, 4, 0] rfl ?_
      exact L187 a9 b9 (f_some (v >>> (10 &&& 31)) n9) (by assumption) (by assumption)
    · refine z_tabIn (off := 137) (tgt := 187) F dL_changes_50 (by decide) (by decide) (by decide) (by decide) ?_
      refine z_loc (lv' := [(0, .ref (a 0)), (1, .int v), (2, .int (nI a9)), (3, .int (nI b9)), (4, .int (f_some (v >>> (10 &&& 31)) n9))]) [1, 2, 3, 4, 0] rfl ?_
      exact L187 a9 b9 (f_some (v >>> (10 &&& 31)) n9) (by assumption) (by assumption)
    · refine z_tabIn (off := 152) (tgt := 202) F dL_changes_50 (by decide) (by decide) (by decide) (by decide) ?_
      refine z_loc (lv' := [(0, .ref (a 0)), (1, .int v), (2, .int (nI a9)), (3, .int (nI b9)), (4, .int (f_some (v >>> (10 &&& 31)) n9))]) [1, 2, 3, 4, 0] rfl ?_
      exact L202 a9 b9 (f_some (v >>> (10 &&& 31)) n9) (by assumption) (by assumption)
    · refine z_tabIn (off := 152) (tgt := 202) F dL_changes_50 (by decide) (by decide) (by decide) (by decide) ?_
      refine z_loc (lv' := [(0, .ref (a 0)), (1, .int v), (2, .int (nI a9)), (3, .int (nI b9)), (4, .int (f_some (v >>> (10 &&& 31)) n9))]) [1, 2, 3, 4, 0] rfl ?_
      exact L202 a9 b9 (f_some (v >>> (10 &&& 31)) n9) (by assumption) (by assumption)
    · refine z_tabIn (off := 176) (tgt := 226) F dL_changes_50 (by decide) (by decide) (by decide) (by decide) ?_
      refine z_loc (lv' := [(0, .ref (a 0)), (1, .int v), (2, .int (nI a9)), (3, .int (nI b9)), (4, .int (f_some (v >>> (10 &&& 31)) n9))]) [1, 2, 3, 4, 0] rfl ?_
      exact L226 a9 b9 (f_some (v >>> (10 &&& 31)) n9) (by assumption) (by assumption)
    · refine z_tabIn (off := 189) (tgt := 239) F dL_changes_50 (by decide) (by decide) (by decide) (by decide) ?_
      refine z_loc (lv' := [(0, .ref (a 0)), (1, .int v), (2, .int (nI a9)), (3, .int (nI b9)), (4, .int (f_some (v >>> (10 &&& 31)) n9))]) [1, 2, 3, 4, 0] rfl ?_
      exact L239 a9 b9 (f_some (v >>> (10 &&& 31)) n9) (by assumption) (by assumption)
    · refine z_tabIn (off := 189) (tgt := 239) F dL_changes_50 (by decide) (by decide) (by decide) (by decide) ?_
      refine z_loc (lv' := [(0, .ref (a 0)), (1, .int v), (2, .int (nI a9)), (3, .int (nI b9)), (4, .int (f_some (v >>> (10 &&& 31)) n9))]) [1, 2, 3, 4, 0] rfl ?_
      exact L239 a9 b9 (f_some (v >>> (10 &&& 31)) n9) (by assumption) (by assumption)
    · refine z_tabIn (off := 205) (tgt := 255) F dL_changes_50 (by decide) (by decide) (by decide) (by decide) ?_
      refine z_loc (lv' := [(0, .ref (a 0)), (1, .int v), (2, .int (nI a9)), (3, .int (nI b9)), (4, .int (f_some (v >>> (10 &&& 31)) n9))]) [1, 2, 3, 4, 0] rfl ?_
      exact L255 a9 b9 (f_some (v >>> (10 &&& 31)) n9) (by assumption) (by assumption)
    · refine z_tabIn (off := 229) (tgt := 279) F dL_changes_50 (by decide) (by decide) (by decide) (by decide) ?_
      refine z_loc (lv' := [(0, .ref (a 0)), (1, .int v), (2, .int (nI a9)), (3, .int (nI b9)), (4, .int (f_some (v >>> (10 &&& 31)) n9))]) [1, 2, 3, 4, 0] rfl ?_
      exact L279 a9 b9 (f_some (v >>> (10 &&& 31)) n9) (by assumption) (by assumption)
    · refine z_tabIn (off := 229) (tgt := 279) F dL_changes_50 (by decide) (by decide) (by decide) (by decide) ?_
      refine z_loc (lv' := [(0, .ref (a 0)), (1, .int v), (2, .int (nI a9)), (3, .int (nI b9)), (4, .int (f_some (v >>> (10 &&& 31)) n9))]) [1, 2, 3, 4, 0] rfl ?_
      exact L279 a9 b9 (f_some (v >>> (10 &&& 31)) n9) (by assumption) (by assumption)
    · refine z_tabIn (off := 250) (tgt := 300) F dL_changes_50 (by decide) (by decide) (by decide) (by decide) ?_
      refine z_loc (lv' := [(0, .ref (a 0)), (1, .int v), (2, .int (nI a9)), (3, .int (nI b9)), (4, .int (f_some (v >>> (10 &&& 31)) n9))]) [1, 2, 3, 4, 0] rfl ?_
      exact L300 a9 b9 (f_some (v >>> (10 &&& 31)) n9) (by assumption) (by assumption)
    · refine z_tabIn (off := 250) (tgt := 300) F dL_changes_50 (by decide) (by decide) (by decide) (by decide) ?_
      refine z_loc (lv' := [(0, .ref (a 0)), (1, .int v), (2, .int (nI a9)), (3, .int (nI b9)), (4, .int (f_some (v >>> (10 &&& 31)) n9))]) [1, 2, 3, 4, 0] rfl ?_
      exact L300 a9 b9 (f_some (v >>> (10 &&& 31)) n9) (by assumption) (by assumption)
    · refine z_tabOut (tgt := 374) F dL_changes_50 (by decide) (by decide) ?_
      refine z_loc (lv' := [(0, .ref (a 0)), (1, .int v), (2, .int (nI a9)), (3, .int (nI b9)), (4, .int (f_some (v >>> (10 &&& 31)) n9))]) [1, 2, 3, 4, 0] rfl ?_
      exact L374 a9 b9 (f_some (v >>> (10 &&& 31)) n9) (by assumption) (by assumption)
    · refine z_tabOut (tgt := 374) F dL_changes_50 (by decide) (by decide) ?_
      refine z_loc (lv' := [(0, .ref (a 0)), (1, .int v), (2, .int (nI a9)), (3, .int (nI b9)), (4, .int (f_some (v >>> (10 &&& 31)) n9))]) [1, 2, 3, 4, 0] rfl ?_
      exact L374 a9 b9 (f_some (v >>> (10 &&& 31)) n9) (by assumption) (by assumption)
    · refine z_tabOut (tgt := 374) F dL_changes_50 (by decide) (by decide) ?_
      refine z_loc (lv' := [(0, .ref (a 0)), (1, .int v), (2, .int (nI a9)), (3, .int (nI b9)), (4, .int (f_some (v >>> (10 &&& 31)) n9))]) [1, 2, 3, 4, 0] rfl ?_
      exact L374 a9 b9 (f_some (v >>> (10 &&& 31)) n9) (by assumption) (by assumption)
    · refine z_tabOut (tgt := 374) F dL_changes_50 (by decide) (by decide) ?_
      refine z_loc (lv' := [(0, .ref (a 0)), (1, .int v), (2, .int (nI a9)), (3, .int (nI b9)), (4, .int (f_some (v >>> (10 &&& 31)) n9))]) [1, 2, 3, 4, 0] rfl ?_
      exact L374 a9 b9 (f_some (v >>> (10 &&& 31)) n9) (by assumption) (by assumption)
    · refine z_tabOut (tgt := 374) F dL_changes_50 (by decide) (by decide) ?_
      refine z_loc (lv' := [(0, .ref (a 0)), (1, .int v), (2, .int (nI a9)), (3, .int (nI b9)), (4, .int (f_some (v >>> (10 &&& 31)) n9))]) [1, 2, 3, 4, 0] rfl ?_
      exact L374 a9 b9 (f_some (v >>> (10 &&& 31)) n9) (by assumption) (by assumption)
  show zW p l e { frames := 10, cells := 80, slots := 2200, locals := 223 } s m args below meth c 5 D A Q 0 0 (sysD g a ((inK k 0)) x o j) [(0, .ref (a 0)), (1, .int v)] [] 0
  refine z_iload_n F 1 dL_changes_0 rfl rfl ?_
  refine z_iconst (v := 4) F dL_changes_1 (by decide) ?_
  refine z_ishr F dL_changes_2 ?_
  refine z_bipush (v := 9) F dL_changes_3 (by decide) ?_
  refine z_calli0 F (z_runS (st := []) F zNo_ok trivial (fun sz => c_L_some l D g (v >>> (4 &&& 31)) 9 ((by decide)) sz) (va_cwS 2 F.1.2.2.2.2 gL_changes_L_some rfl rfl rfl (by decide +kernel) ⟨Nat.le_of_ble_eq_true rfl, Nat.le_of_ble_eq_true rfl⟩) [] [] rfl rfl (by decide) rfl rfl (Nat.le_of_ble_eq_true rfl) dL_changes_5 ⟨Nat.le_of_ble_eq_true rfl, Nat.le_of_ble_eq_true rfl⟩) (fun r53 _ hw52 => ?_)
  subst hw52
  obtain ⟨a9, ha9, ea9⟩ := f_some_lt (v >>> (4 &&& 31)) (n := 9) (by decide) (by decide)
  refine z_top (y := nI a9) (ea9) ?_
  refine z_istore_n (lv' := [(2, .int (nI a9)), (0, .ref (a 0)), (1, .int v)]) F dL_changes_8 rfl (by decide) rfl ?_
  refine z_iload_n F 2 dL_changes_9 rfl rfl ?_
  refine z_bipush (v := 7) F dL_changes_10 (by decide) ?_
  refine z_ishr F dL_changes_12 ?_
  refine z_bipush (v := 9) F dL_changes_13 (by decide) ?_
  refine z_calli0 F (z_runS (st := []) F zNo_ok trivial (fun sz => c_L_some l D g (v >>> (7 &&& 31)) 9 ((by decide)) sz) (va_cwS 2 F.1.2.2.2.2 gL_changes_L_some rfl rfl rfl (by decide +kernel) ⟨Nat.le_of_ble_eq_true rfl, Nat.le_of_ble_eq_true rfl⟩) [] [] rfl rfl (by decide) rfl rfl (Nat.le_of_ble_eq_true rfl) dL_changes_15 ⟨Nat.le_of_ble_eq_true rfl, Nat.le_of_ble_eq_true rfl⟩) (fun r55 _ hw54 => ?_)
  subst hw54
  obtain ⟨b9, hb9, eb9⟩ := f_some_lt (v >>> (7 &&& 31)) (n := 9) (by decide) (by decide)
  refine z_top (y := nI b9) (eb9) ?_
  refine z_istore_n (lv' := [(3, .int (nI b9)), (2, .int (nI a9)), (0, .ref (a 0)), (1, .int v)]) F dL_changes_18 rfl (by decide) rfl ?_
  refine z_iload_n F 3 dL_changes_19 rfl rfl ?_
  refine z_bipush (v := 10) F dL_changes_20 (by decide) ?_
  refine z_ishr F dL_changes_22 ?_
  refine z_iload_n F 3 dL_changes_23 rfl rfl ?_
  refine z_bipush (v := 9) F dL_changes_24 (by decide) ?_
  refine z_ishr F dL_changes_26 ?_
  refine z_iconst (v := 3) F dL_changes_27 (by decide) ?_
  refine z_iand F dL_changes_28 ?_
  refine z_if_ne (tgt := 37) F dL_changes_29 (by decide) (fun c56 => ?_) (fun c56 => ?_)
  · refine z_bipush (v := 30) F dL_changes_37 (by decide) ?_
    refine z_loc (lv' := [(0, .ref (a 0)), (1, .int v), (2, .int (nI a9)), (3, .int (nI b9))]) [2, 3, 1, 0] rfl ?_
    exact L39 a9 b9 30 (by assumption) (by assumption) (by decide)
  · refine z_bipush (v := 101) F dL_changes_32 (by decide) ?_
    refine z_goto (tgt := 39) F dL_changes_34 (by decide) ?_
    refine z_loc (lv' := [(0, .ref (a 0)), (1, .int v), (2, .int (nI a9)), (3, .int (nI b9))]) [2, 3, 1, 0] rfl ?_
    exact L39 a9 b9 101 (by assumption) (by assumption) (by decide)
