/-! THE LAW'S THREE TEXTS -/
theorem f_feF_ind {tx : Nat → Int32} {ln : Nat} : ∀ (k x n : Nat) (c : Int32) (en en' : Nat) (s s' : zR3), (f_feF tx ln k x n c en s).1 = (f_feF tx ln k x n c en' s').1 ∧ (f_feF tx ln k x n c en s).2.1 = (f_feF tx ln k x n c en' s').2.1
  | 0, _, _, _, _, _, _, _ => ⟨rfl, rfl⟩
  | k + 1, x, n, c, en, en', s, s' => by
    have h := f_cm_ind tx ln x s s'
    unfold f_feF
    by_cases q1 : (f_cm tx ln x s').1 = none
    · rw [if_pos (h.1.trans q1), if_pos q1]
      exact ⟨congrArg nI h.2.1, rfl⟩
    · rw [if_neg (fun z => q1 (h.1.symm.trans z)), if_neg q1]
      by_cases q2 : (f_cm tx ln x s').2.1 = ln
      · rw [if_pos (h.2.1.trans q2), if_pos q2]
        exact ⟨rfl, rfl⟩
      · rw [if_neg (fun z => q2 (h.2.1.symm.trans z)), if_neg q2]
        by_cases q3 : f_hasAt tx ln (f_cm tx ln x s').2.1 59 = 0
        · rw [if_pos (by rw [h.2.1]; exact q3), if_pos q3]
          exact ⟨congrArg nI h.2.1, rfl⟩
        · rw [if_neg (by rw [h.2.1]; exact q3), if_neg q3, h.2.1]
          exact f_feF_ind k _ _ _ _ _ _ _
theorem f_fe_ind (tx : Nat → Int32) (ln en en' : Nat) (s s' : zR3) : (f_fe tx ln en s).1 = (f_fe tx ln en' s').1 ∧ (f_fe tx ln en s).2.1 = (f_fe tx ln en' s').2.1 := f_feF_ind 60 0 1 0 en en' s s'
theorem z_mkE {x c : Nat → Int32} {n : Nat} (h : ∀ t, t < n → x t = c t) : zMk x n = zMk c n := by
  funext k
  unfold zMk
  by_cases q : k < n
  · rw [if_pos q, if_pos q, h k q]
  · rw [if_neg q, if_neg q]
def f_tx (ti : Nat) : Nat → Int32 := fun t => f_ch (zBy (f_fb ti) t)
def z30 : zR3 := (0, 0, fun _ => 0)
theorem t_q11 : (f_fe (zMk (f_tx 11) (f_fl 11)) (f_fl 11) 0 z30).1 = 0 := by decide +kernel
theorem t_q12 : (f_fe (zMk (f_tx 12) (f_fl 12)) (f_fl 12) 0 z30).1 = -1 ∧ (f_fe (zMk (f_tx 12) (f_fl 12)) (f_fl 12) 0 z30).2.1 = nI 3 := by decide +kernel
theorem t_q13 : (f_fe (zMk (f_tx 13) (f_fl 13)) (f_fl 13) 0 z30).1 = -1 ∧ (f_fe (zMk (f_tx 13) (f_fl 13)) (f_fl 13) 0 z30).2.1 = nI 1 := by decide +kernel
theorem t_c12a : (f_cm (zMk (f_tx 12) (f_fl 12)) (f_fl 12) 0 z30).1 = some 5 ∧ (f_cm (zMk (f_tx 12) (f_fl 12)) (f_fl 12) 0 z30).2.1 = 5 := by decide +kernel
theorem t_c12b : (f_cm (zMk (f_tx 12) (f_fl 12)) (f_fl 12) 6 z30).1 = some 3 ∧ (f_cm (zMk (f_tx 12) (f_fl 12)) (f_fl 12) 6 z30).2.1 = 13 ∧ (f_cm (zMk (f_tx 12) (f_fl 12)) (f_fl 12) 6 z30).2.2.2.1 = 2 ∧ (f_cm (zMk (f_tx 12) (f_fl 12)) (f_fl 12) 6 z30).2.2.2.2 0 = 0 ∧ (f_cm (zMk (f_tx 12) (f_fl 12)) (f_fl 12) 6 z30).2.2.2.2 1 = 1 := by decide +kernel
theorem t_c12c : (f_cm (zMk (f_tx 12) (f_fl 12)) (f_fl 12) 14 z30).1 = some 3 ∧ (f_cm (zMk (f_tx 12) (f_fl 12)) (f_fl 12) 14 z30).2.2.2.1 = 2 ∧ (f_cm (zMk (f_tx 12) (f_fl 12)) (f_fl 12) 14 z30).2.2.2.2 0 = 0 ∧ (f_cm (zMk (f_tx 12) (f_fl 12)) (f_fl 12) 14 z30).2.2.2.2 1 = 0 := by decide +kernel
theorem t_c13 : (f_cm (zMk (f_tx 13) (f_fl 13)) (f_fl 13) 0 z30).1 = some 3 ∧ (f_cm (zMk (f_tx 13) (f_fl 13)) (f_fl 13) 0 z30).2.2.2.1 = 2 ∧ (f_cm (zMk (f_tx 13) (f_fl 13)) (f_fl 13) 0 z30).2.2.2.2 0 = 9 ∧ (f_cm (zMk (f_tx 13) (f_fl 13)) (f_fl 13) 0 z30).2.2.2.2 1 = 1 := by decide +kernel
theorem t_ro3 (L : zL) (nc : Nat) (nu : Nat → Int32) : f_roL L nc nu 3 = f_onPair (lMc L) (f_nm nc nu 0) (f_nm nc nu 1) := rfl
theorem t_nm {nc i : Nat} {nu : Nat → Int32} {a : Int32} (h : nc = 2) (hi : i = 0 ∨ i = 1) (ha : nu i = a) : f_nm nc nu i = a := by
  unfold f_nm
  rw [h]
  rcases hi with rfl | rfl
  · rw [if_neg (by decide)]; exact ha
  · rw [if_neg (by decide)]; exact ha
theorem t_zR {s s' : zR3} {a b : Int32} (h : zRs s s') (h2 : s'.2.1 = 2) (ha : s'.2.2 0 = a) (hb : s'.2.2 1 = b) (L : zL) : f_roL L s.2.1 s.2.2 3 = f_onPair (lMc L) a b := by
  have e2 : s.2.1 = 2 := h.2.1.trans h2
  rw [t_ro3, t_nm e2 (Or.inl rfl) ((h.2.2 0 (by rw [e2]; decide)).trans ha), t_nm e2 (Or.inr rfl) ((h.2.2 1 (by rw [e2]; decide)).trans hb)]
/-- the numbers of 'net' -/
theorem t_net {L : zL} {tx : Nat → Int32} {ln x : Nat} {s s' : zR3} {a b : Int32} (h2 : (f_cm tx ln x s').2.2.2.1 = 2) (ha : (f_cm tx ln x s').2.2.2.2 0 = a) (hb : (f_cm tx ln x s').2.2.2.2 1 = b) : f_roL L (f_cm tx ln x s).2.2.2.1 (f_cm tx ln x s).2.2.2.2 3 = f_onPair (lMc L) a b := t_zR (f_cm_ind tx ln x s s').2.2 h2 ha hb L
theorem t_u12 {L : zL} (h3 : 3 ≤ lMc L) (hm : lMc L ≤ 8) {s : zR3} {r : Int32} {L' : zL} (h : f_cuR (zMk (f_tx 12) (f_fl 12)) (f_fl 12) 3 0 0 L s r L') : r = nI 2 := by
  have i1 := f_cm_ind (zMk (f_tx 12) (f_fl 12)) (f_fl 12) 0 s z30
  rcases h with ⟨h1, -, -⟩ | ⟨i, h1, ⟨h2, -, -⟩ | ⟨-, rm, h⟩⟩
  · rw [i1.1, t_c12a.1] at h1; exact nomatch h1
  · rw [i1.1, t_c12a.1] at h1
    obtain rfl : 5 = i := Option.some.inj h1
    exact absurd rfl h2
  · rw [i1.1, t_c12a.1] at h1
    obtain rfl : 5 = i := Option.some.inj h1
    rw [i1.2.1, t_c12a.2] at h
    obtain ⟨s2, hs2⟩ : ∃ s2, s2 = (f_cm (zMk (f_tx 12) (f_fl 12)) (f_fl 12) 0 s).2.2 := ⟨_, rfl⟩
    obtain ⟨L2, hL2, hc2⟩ : ∃ L2, L2 = f_cyL L rm (f_cm (zMk (f_tx 12) (f_fl 12)) (f_fl 12) 0 s).2.2.2.1 (f_cm (zMk (f_tx 12) (f_fl 12)) (f_fl 12) 0 s).2.2.2.2 5 ∧ lMc L2 = lMc L := ⟨_, rfl, rfl⟩
    rw [← hL2, ← hs2] at h
    have i2 := f_cm_ind (zMk (f_tx 12) (f_fl 12)) (f_fl 12) 6 s2 z30
    have r2 := t_net (L := L2) (s := s2) t_c12b.2.2.1 t_c12b.2.2.2.1 t_c12b.2.2.2.2
    have r20 : f_onPair (lMc L2) 0 1 = 0 := by rw [hc2]; exact t_pr0 (z_h0 h3 hm) (z_h1 h3 hm) (by decide)
    rcases h with ⟨h1, -, -⟩ | ⟨i, h1, ⟨h2, -, -⟩ | ⟨-, rm2, h⟩⟩
    · rw [i2.1, t_c12b.1] at h1; exact nomatch h1
    · rw [i2.1, t_c12b.1] at h1
      obtain rfl : 3 = i := Option.some.inj h1
      exact absurd (r2.trans r20) h2
    · rw [i2.1, t_c12b.1] at h1
      obtain rfl : 3 = i := Option.some.inj h1
      rw [i2.2.1, t_c12b.2.1] at h
      obtain ⟨s3, hs3⟩ : ∃ s3, s3 = (f_cm (zMk (f_tx 12) (f_fl 12)) (f_fl 12) 6 s2).2.2 := ⟨_, rfl⟩
      obtain ⟨L3, hL3, hc3⟩ : ∃ L3, L3 = f_cyL L2 rm2 (f_cm (zMk (f_tx 12) (f_fl 12)) (f_fl 12) 6 s2).2.2.2.1 (f_cm (zMk (f_tx 12) (f_fl 12)) (f_fl 12) 6 s2).2.2.2.2 3 ∧ lMc L3 = lMc L2 := ⟨_, rfl, rfl⟩
      rw [← hL3, ← hs3] at h
      have i3 := f_cm_ind (zMk (f_tx 12) (f_fl 12)) (f_fl 12) 14 s3 z30
      have r3 := t_net (L := L3) (s := s3) t_c12c.2.1 t_c12c.2.2.1 t_c12c.2.2.2
      have r30 : f_onPair (lMc L3) 0 0 = 2 := by rw [hc3, hc2]; exact t_pr3 (z_h0 h3 hm) (z_h0 h3 hm) rfl
      rcases h with ⟨h1, -, -⟩ | ⟨i, h1, ⟨-, h2, -⟩ | ⟨h2, -⟩⟩
      · rw [i3.1, t_c12c.1] at h1; exact nomatch h1
      · exact h2
      · rw [i3.1, t_c12c.1] at h1
        obtain rfl : 3 = i := Option.some.inj h1
        rw [r3, r30] at h2
        exact absurd h2 (by decide)
theorem t_u13 {L : zL} (h3 : 3 ≤ lMc L) (hm : lMc L ≤ 8) {s : zR3} {r : Int32} {L' : zL} (h : f_cuR (zMk (f_tx 13) (f_fl 13)) (f_fl 13) 1 0 0 L s r L') : r = nI 0 := by
  have i3 := f_cm_ind (zMk (f_tx 13) (f_fl 13)) (f_fl 13) 0 s z30
  have r3 := t_net (L := L) (s := s) t_c13.2.1 t_c13.2.2.1 t_c13.2.2.2
  have h9 : f_has (lMc L) 9 = 0 := by
    unfold f_has
    rw [if_neg (by decide)]
    exact if_pos (show nI (lMc L) ≤ nI 9 from nI_le (by omega) (by decide))
  have r30 : f_onPair (lMc L) 9 1 = 1 := t_pr1 h9
  rcases h with ⟨h1, -, -⟩ | ⟨i, h1, ⟨-, h2, -⟩ | ⟨h2, -⟩⟩
  · rw [i3.1, t_c13.1] at h1; exact nomatch h1
  · exact h2
  · rw [i3.1, t_c13.1] at h1
    obtain rfl : 3 = i := Option.some.inj h1
    rw [r3, r30] at h2
    exact absurd h2 (by decide)
theorem t_fe {k : zKK} {x : Nat → Int32} {ti : Nat} (j : zGG) (hx : ∀ t, t < f_fl ti → x t = f_ch (zBy (f_fb ti) t)) : (f_fe (zMk x (kI (inK k (f_fl ti)))) (kI (inK k (f_fl ti))) (jen j) (jre j, jnc j, jnu j)).1 = (f_fe (zMk (f_tx ti) (f_fl ti)) (f_fl ti) 0 z30).1 ∧ (f_fe (zMk x (kI (inK k (f_fl ti)))) (kI (inK k (f_fl ti))) (jen j) (jre j, jnc j, jnu j)).2.1 = (f_fe (zMk (f_tx ti) (f_fl ti)) (f_fl ti) 0 z30).2.1 := by
  show (f_fe (zMk x (f_fl ti)) (f_fl ti) (jen j) (jre j, jnc j, jnu j)).1 = _ ∧ (f_fe (zMk x (f_fl ti)) (f_fl ti) (jen j) (jre j, jnc j, jnu j)).2.1 = _
  rw [z_mkE (c := f_tx ti) hx]
  exact f_fe_ind _ _ _ _ _ _
theorem t_r11 {k k9 : zKK} {x : Nat → Int32} {j j9 : zGG} {r : Int32} (hx : ∀ t, t < f_fl 11 → x t = f_ch (zBy (f_fb 11) t)) (h : f_runP (inK k (f_fl 11)) x j r k9 j9) : r = -1001 ∧ k9 = errK k 0 (kF k) ∧ jnc j9 ≤ 3 := by
  obtain ⟨e1, e2⟩ := t_fe (k := k) j hx
  rw [t_q11] at e1
  obtain ⟨h0, h⟩ := h
  rw [e1] at h
  rcases h with ⟨cn, L9, -, h1, -⟩ | ⟨h1, -, h3⟩ | ⟨-, h1, -⟩
  · exact absurd h1 (by decide)
  · exact ⟨h1, h3, h0⟩
  · exact absurd h1 (by decide)
theorem t_cn {c d : Nat} (h : nI c = nI d) (hc : c ≤ 60) (hd : d ≤ 60) : c = d := (nI_eq (by omega) (by omega)).mp h
theorem t_r12 {k k9 : zKK} {x : Nat → Int32} {j j9 : zGG} {r : Int32} (h3 : 3 ≤ lMc (kL k)) (hm : lMc (kL k) ≤ 8) (hx : ∀ t, t < f_fl 12 → x t = f_ch (zBy (f_fb 12) t)) (h : f_runP (inK k (f_fl 12)) x j r k9 j9) : r = -1002 ∧ k9 = errK k (kE k) 2 ∧ jnc j9 ≤ 3 := by
  obtain ⟨e1, e2⟩ := t_fe (k := k) j hx
  rw [t_q12.1] at e1
  rw [t_q12.2] at e2
  obtain ⟨h0, h⟩ := h
  have ez : zMk x (kI (inK k (f_fl 12))) = zMk (f_tx 12) (f_fl 12) := z_mkE (c := f_tx 12) hx
  rcases h with ⟨cn, L9, hc, -, -, h1, h2, -⟩ | ⟨-, h1, -⟩ | ⟨g0, -, cn, r9, L9, hc, h1, h2, h4, h5⟩
  · rw [e2] at h1
    have := t_cn h1.symm hc (by decide)
    subst this
    rw [ez] at h2
    have := t_u12 h3 hm h2
    exact absurd this (by decide)
  · exact absurd e1 h1
  · rw [e2] at h1
    have := t_cn h1.symm hc (by decide)
    subst this
    rw [ez] at h2
    have := t_u12 h3 hm h2
    exact ⟨g0, by rw [h5, this]; rfl, h0⟩
theorem t_r13 {k k9 : zKK} {x : Nat → Int32} {j j9 : zGG} {r : Int32} (h3 : 3 ≤ lMc (kL k)) (hm : lMc (kL k) ≤ 8) (hx : ∀ t, t < f_fl 13 → x t = f_ch (zBy (f_fb 13) t)) (h : f_runP (inK k (f_fl 13)) x j r k9 j9) : r = -1002 ∧ k9 = errK k (kE k) 0 ∧ jnc j9 ≤ 3 := by
  obtain ⟨e1, e2⟩ := t_fe (k := k) j hx
  rw [t_q13.1] at e1
  rw [t_q13.2] at e2
  obtain ⟨h0, h⟩ := h
  have ez : zMk x (kI (inK k (f_fl 13))) = zMk (f_tx 13) (f_fl 13) := z_mkE (c := f_tx 13) hx
  rcases h with ⟨cn, L9, hc, -, -, h1, h2, -⟩ | ⟨-, h1, -⟩ | ⟨g0, -, cn, r9, L9, hc, h1, h2, h4, h5⟩
  · rw [e2] at h1
    have := t_cn h1.symm hc (by decide)
    subst this
    rw [ez] at h2
    have := t_u13 h3 hm h2
    exact absurd this (by decide)
  · exact absurd e1 h1
  · rw [e2] at h1
    have := t_cn h1.symm hc (by decide)
    subst this
    rw [ez] at h2
    have := t_u13 h3 hm h2
    exact ⟨g0, by rw [h5, this]; rfl, h0⟩
