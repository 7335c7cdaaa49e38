/-! THE OLD NUMBERS DON'T MATTER -/
def zRs (s s' : zR3) : Prop := s.1 = s'.1 ∧ s.2.1 = s'.2.1 ∧ ∀ k, k < s.2.1 → s.2.2 k = s'.2.2 k
theorem f_st_ind {tx : Nat → Int32} {ln : Nat} {c : Int32} {s s' : zR3} (h : zRs s s') : (f_st tx ln c s).1 = (f_st tx ln c s').1 ∧ zRs (f_st tx ln c s).2 (f_st tx ln c s').2 := by
  obtain ⟨re, nc, nu⟩ := s
  obtain ⟨re', nc', nu'⟩ := s'
  obtain ⟨h1, h2, h3⟩ := h
  simp only at h1 h2 h3
  subst h1
  subst h2
  have hN : ∀ v, (f_sN tx ln v (re, nc, nu)).1 = (f_sN tx ln v (re, nc, nu')).1 ∧ zRs (f_sN tx ln v (re, nc, nu)).2 (f_sN tx ln v (re, nc, nu')).2 := fun v => by
    unfold f_sN
    by_cases q : f_hd tx ln re = 0
    · rw [if_pos q, if_pos q]
      exact ⟨rfl, rfl, rfl, h3⟩
    · rw [if_neg q, if_neg q]
      refine ⟨rfl, rfl, rfl, fun k hk => ?_⟩
      simp only [f_rC, f_rU] at hk ⊢
      by_cases q3 : 3 ≤ nc
      · rw [if_pos q3] at hk
        rw [if_pos q3, if_pos q3]
        exact h3 k hk
      · rw [if_neg q3] at hk
        rw [if_neg q3, if_neg q3]
        by_cases e : k = nc
        · subst e; rw [pk_us, pk_us]
        · rw [pk_un e, pk_un e]; exact h3 k (by omega)
  unfold f_st
  by_cases q1 : c = 35
  · rw [if_pos q1, if_pos q1]; exact hN 0
  · rw [if_neg q1, if_neg q1]
    by_cases q2 : c = 64
    · rw [if_pos q2, if_pos q2]; exact hN 1
    · rw [if_neg q2, if_neg q2]
      unfold f_sL
      by_cases q : f_hasAt tx ln re c = 0
      · rw [if_pos q, if_pos q]; exact ⟨rfl, rfl, rfl, h3⟩
      · rw [if_neg q, if_neg q]; exact ⟨rfl, rfl, rfl, h3⟩
theorem f_foF_ind {tx : Nat → Int32} {ln : Nat} {sb : Nat → Int8} : ∀ (k i : Nat) (s s' : zR3), zRs s s' → (f_foF tx ln sb k i s).1 = (f_foF tx ln sb k i s').1 ∧ zRs (f_foF tx ln sb k i s).2 (f_foF tx ln sb k i s').2
  | 0, _, _, _, h => ⟨rfl, h⟩
  | k + 1, i, s, s', h => by
    have h1 := f_st_ind (tx := tx) (ln := ln) (c := f_ch (zBy sb i)) h
    unfold f_foF
    by_cases q : (f_st tx ln (f_ch (zBy sb i)) s).1 = 0
    · rw [if_pos q, if_pos (h1.1 ▸ q)]; exact ⟨rfl, h1.2⟩
    · rw [if_neg q, if_neg (h1.1 ▸ q)]; exact f_foF_ind k (i + 1) _ _ h1.2
theorem f_fo_ind (tx : Nat → Int32) (ln sn : Nat) (sb : Nat → Int8) (x : Nat) (nu nu' : Nat → Int32) : (f_fo tx ln sn sb x nu).1 = (f_fo tx ln sn sb x nu').1 ∧ zRs (f_fo tx ln sn sb x nu).2 (f_fo tx ln sn sb x nu').2 := f_foF_ind sn 0 _ _ ⟨rfl, rfl, fun k hk => absurd hk (Nat.not_lt_zero k)⟩
theorem f_cmF_ind {tx : Nat → Int32} {ln x : Nat} : ∀ (k i en : Nat) (s s' : zR3), (f_cmF tx ln x (k + 1) i en s).1 = (f_cmF tx ln x (k + 1) i en s').1 ∧ (f_cmF tx ln x (k + 1) i en s).2.1 = (f_cmF tx ln x (k + 1) i en s').2.1 ∧ zRs (f_cmF tx ln x (k + 1) i en s).2.2 (f_cmF tx ln x (k + 1) i en s').2.2 := by
  intro k
  induction k with
  | zero =>
    intro i en s s'
    have h1 := f_fo_ind tx ln (f_fl i) (f_fb i) x s.2.2 s'.2.2
    by_cases q : (f_fo tx ln (f_fl i) (f_fb i) x s.2.2).1 = 0
    · rw [f_cmF_go q, f_cmF_go (h1.1 ▸ q)]
      exact ⟨rfl, by show max _ _ = max _ _; rw [h1.2.1], h1.2⟩
    · rw [f_cmF_hit q, f_cmF_hit (h1.1 ▸ q)]
      exact ⟨rfl, by show max _ _ = max _ _; rw [h1.2.1], h1.2⟩
  | succ k ih =>
    intro i en s s'
    have h1 := f_fo_ind tx ln (f_fl i) (f_fb i) x s.2.2 s'.2.2
    by_cases q : (f_fo tx ln (f_fl i) (f_fb i) x s.2.2).1 = 0
    · have q' : (f_fo tx ln (f_fl i) (f_fb i) x s'.2.2).1 = 0 := h1.1 ▸ q
      have e1 := f_cmF_go (k := k + 1) (en := en) (s := s) q
      have e2 := f_cmF_go (k := k + 1) (en := en) (s := s') q'
      rw [e1, e2, h1.2.1]
      exact ih (i + 1) _ _ _
    · have q' : ¬ (f_fo tx ln (f_fl i) (f_fb i) x s'.2.2).1 = 0 := h1.1 ▸ q
      have e1 := f_cmF_hit (k := k + 1) (en := en) (s := s) q
      have e2 := f_cmF_hit (k := k + 1) (en := en) (s := s') q'
      rw [e1, e2]
      exact ⟨rfl, by show max _ _ = max _ _; rw [h1.2.1], h1.2⟩
theorem f_cm_ind (tx : Nat → Int32) (ln x : Nat) (s s' : zR3) : (f_cm tx ln x s).1 = (f_cm tx ln x s').1 ∧ (f_cm tx ln x s).2.1 = (f_cm tx ln x s').2.1 ∧ zRs (f_cm tx ln x s).2.2 (f_cm tx ln x s').2.2 := f_cmF_ind 7 0 x s s'
theorem f_okF_ind {tx : Nat → Int32} {ln : Nat} : ∀ (k x : Nat) (s s' : zR3), f_okF tx ln k x s → f_okF tx ln k x s'
  | 0, _, _, _, _ => trivial
  | k + 1, x, s, s', h => by
    have h1 := f_cm_ind tx ln x s s'
    exact ⟨h.1, h1.2.1 ▸ f_okF_ind k _ _ _ h.2⟩
/-- a text without error: each of its commands starts within it, and their number is known -/
theorem f_feF_ok {tx : Nat → Int32} {ln : Nat} (hl : ln ≤ 60) : ∀ (k x n : Nat) (c : Int32) (en : Nat) (s s' : zR3), x ≤ ln → s.2.1 ≤ 3 → (f_feF tx ln k x n c en s).1 = -1 → ∃ j, j + 1 ≤ k ∧ (f_feF tx ln k x n c en s).2.1 = nI (n + j) ∧ (f_feF tx ln k x n c en s).2.2.2.2.1 ≤ 3 ∧ f_okF tx ln (j + 1) x s'
  | 0, x, n, c, en, s, s', hx, h3, h => by
    have h1 : nI ln = -1 := h
    exact absurd h1 (by
      intro q
      have h2 := congrArg Int32.toInt q
      rw [nI_toInt (by omega)] at h2
      have : (-1 : Int32).toInt = -1 := by decide
      omega)
  | k + 1, x, n, c, en, s, s', hx, h3, h => by
    have hE := f_cmF_le (tx := tx) hl hx 8 0 x s hx h3
    have hI := f_cm_ind tx ln x s s'
    have e9 : ∀ y : Nat, y ≤ ln → ¬ nI y = (-1 : Int32) := fun y hy q => by
      have h2 := congrArg Int32.toInt q
      rw [nI_toInt (by omega)] at h2
      have : (-1 : Int32).toInt = -1 := by decide
      omega
    unfold f_feF at h ⊢
    by_cases q1 : (f_cm tx ln x s).1 = none
    · rw [if_pos q1] at h
      exact absurd h (e9 _ hE.1)
    · rw [if_neg q1] at h ⊢
      by_cases q2 : (f_cm tx ln x s).2.1 = ln
      · rw [if_pos q2]
        exact ⟨0, by omega, rfl, hE.2, hx, trivial⟩
      · rw [if_neg q2] at h ⊢
        by_cases q3 : f_hasAt tx ln (f_cm tx ln x s).2.1 59 = 0
        · rw [if_pos q3] at h
          exact absurd h (e9 _ hE.1)
        · rw [if_neg q3] at h ⊢
          have hlt := z_hasAt q3 (by have := hE.1; show (f_cmF tx ln x 8 0 x s).2.1 < _; omega) (by omega)
          obtain ⟨j, hj, hc, hn, hk⟩ := f_feF_ok hl k _ (n + 1) (nI n) _ _ (f_cm tx ln x s').2.2 hlt hE.2 h
          exact ⟨j + 1, by omega, hc.trans (by rw [show n + 1 + j = n + (j + 1) by omega]), hn, hx, hI.2.1 ▸ hk⟩
theorem f_fe_ok {tx : Nat → Int32} {ln en : Nat} {s : zR3} (hl : ln ≤ 60) (h3 : s.2.1 ≤ 3) (h : (f_fe tx ln en s).1 = -1) (s' : zR3) : ∃ cn, cn ≤ 60 ∧ (f_fe tx ln en s).2.1 = nI cn ∧ (f_fe tx ln en s).2.2.2.2.1 ≤ 3 ∧ f_okF tx ln cn 0 s' := by
  obtain ⟨j, h1, h2, h4, h5⟩ := f_feF_ok hl 60 0 1 0 en s s' (Nat.zero_le _) h3 h
  exact ⟨1 + j, by omega, h2, h4, by rw [show 1 + j = j + 1 by omega]; exact h5⟩
