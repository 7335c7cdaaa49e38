/-! WHAT HOLDS OF EVERY LEDGER THAT THE LAW REACHES -/
theorem z_addI {a b : Int32} (h1 : -2147483648 ≤ a.toInt + b.toInt) (h2 : a.toInt + b.toInt < 2147483648) : (a + b).toInt = a.toInt + b.toInt := by
  rw [Int32.toInt_add]
  exact Int.bmod_eq_of_le (by omega) (by omega)
theorem z_negI2 {a : Int32} (h : -2147483648 < a.toInt) : (-a).toInt = -a.toInt := by
  have := Int32.toInt_lt a
  rw [Int32.toInt_neg]
  exact Int.bmod_eq_of_le (by omega) (by omega)
theorem z_subI {a b : Int32} (h1 : -2147483648 ≤ a.toInt - b.toInt) (h2 : a.toInt - b.toInt < 2147483648) : (a - b).toInt = a.toInt - b.toInt := by
  rw [Int32.toInt_sub]
  exact Int.bmod_eq_of_le (by omega) (by omega)
theorem z_ltT {a b : Int32} : a < b ↔ a.toInt < b.toInt := Int32.lt_iff_toInt_lt
theorem z_leT {a b : Int32} : a ≤ b ↔ a.toInt ≤ b.toInt := Int32.le_iff_toInt_le
theorem z_minT (a b : Int32) : (z_min a b).toInt = min a.toInt b.toInt := by
  unfold z_min
  by_cases h : b < a
  · rw [if_pos h]
    have := z_ltT.mp h
    omega
  · rw [if_neg h]
    have : ¬ b.toInt < a.toInt := fun q => h (z_ltT.mpr q)
    omega
def zDn (am : Nat → Int32) (x : Nat) : Nat → Int | 0 => 0 | i + 1 => zDn am x i + (am (8 * x + i)).toInt
def zCn (am : Nat → Int32) (x : Nat) : Nat → Int | 0 => 0 | i + 1 => zCn am x i + (am (8 * i + x)).toInt
/-- the amounts: none below 0, no member owes more than 500 -/
def zAp (am : Nat → Int32) : Prop := (∀ p, p < 64 → 0 ≤ (am p).toInt) ∧ ∀ x, x < 8 → zDn am x 8 ≤ 500
theorem zDn_nn {am : Nat → Int32} (h : zAp am) {x : Nat} (hx : x < 8) : ∀ n, n ≤ 8 → 0 ≤ zDn am x n
  | 0, _ => Int.le_refl 0
  | n + 1, hn => by
    have h1 := zDn_nn h hx n (by omega)
    have h2 := h.1 (8 * x + n) (by omega)
    show 0 ≤ zDn am x n + (am (8 * x + n)).toInt
    omega
theorem zDn_mono {am : Nat → Int32} (h : zAp am) {x : Nat} (hx : x < 8) {n : Nat} (hn : n ≤ 8) : ∀ k, n + k ≤ 8 → zDn am x n ≤ zDn am x (n + k)
  | 0, _ => Int.le_refl _
  | k + 1, hk => by
    have h1 := zDn_mono h hx hn k (by omega)
    have h2 := h.1 (8 * x + (n + k)) (by omega)
    show zDn am x n ≤ zDn am x (n + k) + (am (8 * x + (n + k))).toInt
    omega
theorem zDn_le {am : Nat → Int32} (h : zAp am) {x : Nat} (hx : x < 8) {n : Nat} (hn : n ≤ 8) : zDn am x n ≤ 500 := by
  have h1 := zDn_mono h hx hn (8 - n) (by omega)
  rw [show n + (8 - n) = 8 by omega] at h1
  exact Int.le_trans h1 (h.2 x hx)
theorem zAp_am {am : Nat → Int32} (h : zAp am) {p : Nat} (hp : p < 64) : 0 ≤ (am p).toInt ∧ (am p).toInt ≤ 500 := by
  refine ⟨h.1 p hp, ?_⟩
  have h1 := zDn_nn h (x := p / 8) (by omega) (p % 8) (by omega)
  have h2 := zDn_le h (x := p / 8) (by omega) (n := p % 8 + 1) (by omega)
  have h3 : zDn am (p / 8) (p % 8 + 1) = zDn am (p / 8) (p % 8) + (am (8 * (p / 8) + p % 8)).toInt := rfl
  rw [show 8 * (p / 8) + p % 8 = p by omega] at h3
  omega
theorem z_debitN {am : Nat → Int32} (h : zAp am) {x : Nat} (hx : x < 8) : ∀ n, n ≤ 8 → (f_debitN am x n).toInt = zDn am x n
  | 0, _ => Int32.toInt_zero
  | n + 1, hn => by
    have h1 := z_debitN h hx n (by omega)
    have h2 := zDn_nn h hx n (by omega)
    have h3 := zDn_le h hx (n := n) (by omega)
    have h4 := zAp_am h (p := 8 * x + n) (by omega)
    show (f_debitN am x n + am (8 * x + n)).toInt = zDn am x n + (am (8 * x + n)).toInt
    rw [z_addI (by rw [h1]; omega) (by rw [h1]; omega), h1]
theorem z_debitT {am : Nat → Int32} (h : zAp am) {x : Nat} (hx : x < 8) : (f_debit am x).toInt = zDn am x 8 := z_debitN h hx 8 (Nat.le_refl 8)
theorem zCn_bd {am : Nat → Int32} (h : zAp am) {x : Nat} (hx : x < 8) : ∀ n, n ≤ 8 → 0 ≤ zCn am x n ∧ zCn am x n ≤ 500 * n
  | 0, _ => ⟨Int.le_refl 0, Int.le_refl 0⟩
  | n + 1, hn => by
    have h1 := zCn_bd h hx n (by omega)
    have h2 := zAp_am h (p := 8 * n + x) (by omega)
    show 0 ≤ zCn am x n + (am (8 * n + x)).toInt ∧ zCn am x n + (am (8 * n + x)).toInt ≤ 500 * ((n + 1 : Nat) : Int)
    omega
theorem z_creditN {am : Nat → Int32} (h : zAp am) {x : Nat} (hx : x < 8) : ∀ n, n ≤ 8 → (f_creditN am x n).toInt = zCn am x n
  | 0, _ => Int32.toInt_zero
  | n + 1, hn => by
    have h1 := z_creditN h hx n (by omega)
    have h2 := zCn_bd h hx n (by omega)
    have h4 := zAp_am h (p := 8 * n + x) (by omega)
    show (f_creditN am x n + am (8 * n + x)).toInt = zCn am x n + (am (8 * n + x)).toInt
    rw [z_addI (by rw [h1]; omega) (by rw [h1]; omega), h1]
theorem z_posT {am : Nat → Int32} (h : zAp am) {x : Nat} (hx : x < 8) : (f_pos am x).toInt = zCn am x 8 - zDn am x 8 := by
  have h1 := z_debitT h hx
  have h2 : (f_credit am x).toInt = zCn am x 8 := z_creditN h hx 8 (Nat.le_refl 8)
  have h3 := zCn_bd h hx 8 (Nat.le_refl 8)
  have h4 := zDn_nn h hx 8 (Nat.le_refl 8)
  have h5 := h.2 x hx
  show (f_credit am x - f_debit am x).toInt = _
  rw [z_subI (by rw [h1, h2]; omega) (by rw [h1, h2]; omega), h1, h2]
theorem zDn_off {am : Nat → Int32} {p : Nat} {w : Int32} {x : Nat} (hp : p < 8 * x ∨ 8 * x + 8 ≤ p) : ∀ n, n ≤ 8 → zDn (upd am p w) x n = zDn am x n
  | 0, _ => rfl
  | n + 1, hn => by
    show zDn (upd am p w) x n + (upd am p w (8 * x + n)).toInt = zDn am x n + (am (8 * x + n)).toInt
    rw [zDn_off hp n (by omega), pk_un (by omega)]
theorem zDn_lo {am : Nat → Int32} {w : Int32} {x y : Nat} : ∀ n, n ≤ y → zDn (upd am (8 * x + y) w) x n = zDn am x n
  | 0, _ => rfl
  | n + 1, hn => by
    show zDn (upd am (8 * x + y) w) x n + (upd am (8 * x + y) w (8 * x + n)).toInt = zDn am x n + (am (8 * x + n)).toInt
    rw [zDn_lo n (by omega), pk_un (by omega)]
theorem zDn_on {am : Nat → Int32} {w : Int32} {x y : Nat} : ∀ k, zDn (upd am (8 * x + y) w) x (y + 1 + k) = zDn am x (y + 1 + k) - (am (8 * x + y)).toInt + w.toInt
  | 0 => by
    show zDn (upd am (8 * x + y) w) x y + (upd am (8 * x + y) w (8 * x + y)).toInt = zDn am x y + (am (8 * x + y)).toInt - (am (8 * x + y)).toInt + w.toInt
    rw [zDn_lo y (Nat.le_refl y), pk_us]
    omega
  | k + 1 => by
    show zDn (upd am (8 * x + y) w) x (y + 1 + k) + (upd am (8 * x + y) w (8 * x + (y + 1 + k))).toInt = zDn am x (y + 1 + k) + (am (8 * x + (y + 1 + k))).toInt - (am (8 * x + y)).toInt + w.toInt
    rw [zDn_on k, pk_un (by omega)]
    omega
theorem zDn_at {am : Nat → Int32} {w : Int32} {x y : Nat} (hy : y < 8) : zDn (upd am (8 * x + y) w) x 8 = zDn am x 8 - (am (8 * x + y)).toInt + w.toInt := by
  have := zDn_on (am := am) (w := w) (x := x) (y := y) (7 - y)
  rw [show y + 1 + (7 - y) = 8 by omega] at this
  exact this
/-- a debt is changed -/
theorem z_chA {am : Nat → Int32} (h : zAp am) {x y : Nat} {v : Int32} (hx : x < 8) (hy : y < 8) (h1 : 0 ≤ (am (8 * x + y)).toInt + v.toInt) (h2 : zDn am x 8 + v.toInt ≤ 500) :
    zAp (f_chA am x y v) ∧ (am (8 * x + y) + v).toInt = (am (8 * x + y)).toInt + v.toInt ∧ zDn (f_chA am x y v) x 8 = zDn am x 8 + v.toInt ∧ ∀ x', x' ≠ x → zDn (f_chA am x y v) x' 8 = zDn am x' 8 := by
  have ha := zAp_am h (p := 8 * x + y) (by omega)
  have hd := zDn_nn h hx 8 (Nat.le_refl 8)
  have hd2 := h.2 x hx
  have e1 : (am (8 * x + y) + v).toInt = (am (8 * x + y)).toInt + v.toInt := z_addI (by omega) (by omega)
  have e2 : zDn (f_chA am x y v) x 8 = zDn am x 8 + v.toInt := by
    show zDn (upd am (8 * x + y) (am (8 * x + y) + v)) x 8 = _
    rw [zDn_at hy, e1]
    omega
  have e3 : ∀ x', x' ≠ x → zDn (f_chA am x y v) x' 8 = zDn am x' 8 := fun x' hx' => zDn_off (by omega) 8 (Nat.le_refl 8)
  refine ⟨⟨fun p hp => ?_, fun x' hx' => ?_⟩, e1, e2, e3⟩
  · show 0 ≤ (upd am (8 * x + y) (am (8 * x + y) + v) p).toInt
    by_cases q : p = 8 * x + y
    · rw [q, pk_us, e1]; exact h1
    · rw [pk_un q]; exact h.1 p hp
  · by_cases q : x' = x
    · rw [q, e2]; exact h2
    · rw [e3 x' q]; exact h.2 x' hx'
theorem f_chA_off {am : Nat → Int32} {x y p : Nat} {v : Int32} (h : p ≠ 8 * x + y) : f_chA am x y v p = am p := pk_un h
theorem zAp_fg {am ac : Nat → Int32} {x : Nat} (hx : x < 8) (h : zAp am) : ∀ n, n ≤ 8 → zAp (f_fgN am ac x n).1 ∧ (∀ k, k < n → (f_fgN am ac x n).1 (8 * x + k) = 0) ∧ (∀ p, (p < 8 * x ∨ 8 * x + n ≤ p) → (f_fgN am ac x n).1 p = am p)
  | 0, _ => ⟨h, fun k hk => absurd hk (Nat.not_lt_zero k), fun _ _ => rfl⟩
  | n + 1, hn => by
    obtain ⟨h1, h2, h3⟩ := zAp_fg (ac := ac) hx h n (by omega)
    have h4 := zAp_am h1 (p := 8 * x + n) (by omega)
    have h5 : (-((f_fgN am ac x n).1 (8 * x + n))).toInt = -((f_fgN am ac x n).1 (8 * x + n)).toInt := z_negI2 (by omega)
    have hd := h1.2 x hx
    obtain ⟨g1, g2, -, -⟩ := z_chA h1 (x := x) (y := n) (v := -((f_fgN am ac x n).1 (8 * x + n))) hx (by omega) (by rw [h5]; omega) (by rw [h5]; omega)
    refine ⟨g1, fun k hk => ?_, fun p hp => ?_⟩
    · show upd (f_fgN am ac x n).1 (8 * x + n) ((f_fgN am ac x n).1 (8 * x + n) + -((f_fgN am ac x n).1 (8 * x + n))) (8 * x + k) = 0
      by_cases q : k = n
      · rw [q, pk_us]
        apply Int32.toInt_inj.mp
        rw [g2, h5, Int32.toInt_zero]
        omega
      · rw [pk_un (by omega)]
        exact h2 k (by omega)
    · show upd (f_fgN am ac x n).1 (8 * x + n) _ p = am p
      rw [pk_un (by omega)]
      exact h3 p (by omega)
theorem zAp_fa {am ac : Nat → Int32} (h : zAp am) : ∀ n, n ≤ 8 → zAp (f_faN am ac n).1 ∧ ∀ p, p < 8 * n → (f_faN am ac n).1 p = 0
  | 0, _ => ⟨h, fun p hp => absurd hp (by omega)⟩
  | n + 1, hn => by
    obtain ⟨h1, h2⟩ := zAp_fa (ac := ac) h n (by omega)
    obtain ⟨g1, g2, g3⟩ := zAp_fg (ac := (f_faN am ac n).2) (x := n) (by omega) h1 8 (Nat.le_refl 8)
    refine ⟨g1, fun p hp => ?_⟩
    show (f_fgN (f_faN am ac n).1 (f_faN am ac n).2 n 8).1 p = 0
    by_cases q : p < 8 * n
    · rw [g3 p (Or.inl q)]; exact h2 p q
    · have := g2 (p - 8 * n) (by omega)
      rw [show 8 * n + (p - 8 * n) = p by omega] at this
      exact this
/-- positions still open, and the debts made so far -/
def zOp (am op : Nat → Int32) : Prop := zAp am ∧ (∀ x, x < 8 → -4000 ≤ (op x).toInt ∧ (op x).toInt ≤ 4000) ∧ ∀ x, x < 8 → zDn am x 8 - (op x).toInt ≤ 500
theorem zAp_clF : ∀ (k : Nat) (am ac op : Nat → Int32) (i : Nat), zOp am op → zAp (f_clF k am ac op i).1
  | 0, _, _, _, _, h => h.1
  | k + 1, am, ac, op, i, h => by
    unfold f_clF
    by_cases q : f_fdA op ≤ 0
    · rw [if_pos q]; exact h.1
    · rw [if_neg q]
      have hd := f_fdD_lt op
      have hc := f_fdC_lt op
      obtain ⟨h1, h2, h3⟩ := h
      have b1 := h2 _ hd
      have b2 := h2 _ hc
      have q1 : ¬ (f_fdA op).toInt ≤ 0 := fun z => q (z_leT.mpr (by rw [Int32.toInt_zero]; exact z))
      have e0 : (f_fdA op).toInt = min (-(op (f_fdD op)).toInt) (op (f_fdC op)).toInt := by
        show (z_min (-(op (f_fdD op))) (op (f_fdC op))).toInt = _
        rw [z_minT, z_negI2 (by omega)]
      have hne : f_fdD op ≠ f_fdC op := fun z => by rw [z] at e0; omega
      have h3d := h3 _ hd
      have a1 := zAp_am h1 (p := 8 * f_fdD op + f_fdC op) (by omega)
      have e1 : (op (f_fdD op) + f_fdA op).toInt = (op (f_fdD op)).toInt + (f_fdA op).toInt := z_addI (by omega) (by omega)
      have e2 : (op (f_fdC op) - f_fdA op).toInt = (op (f_fdC op)).toInt - (f_fdA op).toInt := z_subI (by omega) (by omega)
      obtain ⟨g1, g2, g3, g4⟩ := z_chA h1 (v := f_fdA op) hd hc (by omega) (by omega)
      refine zAp_clF k _ _ _ _ ⟨g1, fun x hx => ?_, fun x hx => ?_⟩
      · show -4000 ≤ (upd (upd op (f_fdD op) (op (f_fdD op) + f_fdA op)) (f_fdC op) ((upd op (f_fdD op) (op (f_fdD op) + f_fdA op)) (f_fdC op) - f_fdA op) x).toInt ∧ (upd (upd op (f_fdD op) (op (f_fdD op) + f_fdA op)) (f_fdC op) ((upd op (f_fdD op) (op (f_fdD op) + f_fdA op)) (f_fdC op) - f_fdA op) x).toInt ≤ 4000
        rw [pk_un (k := f_fdD op) (j := f_fdC op) (Ne.symm hne)]
        by_cases z : x = f_fdC op
        · rw [z, pk_us, e2]; omega
        · rw [pk_un z]
          by_cases z2 : x = f_fdD op
          · rw [z2, pk_us, e1]; omega
          · rw [pk_un z2]; exact h2 x hx
      · show zDn (f_chA am (f_fdD op) (f_fdC op) (f_fdA op)) x 8 - (upd (upd op (f_fdD op) (op (f_fdD op) + f_fdA op)) (f_fdC op) ((upd op (f_fdD op) (op (f_fdD op) + f_fdA op)) (f_fdC op) - f_fdA op) x).toInt ≤ 500
        rw [pk_un (k := f_fdD op) (j := f_fdC op) (Ne.symm hne)]
        by_cases z : x = f_fdC op
        · rw [z, pk_us, e2, g4 _ (Ne.symm hne)]
          have := h1.2 _ hc
          omega
        · rw [pk_un z]
          by_cases z2 : x = f_fdD op
          · rw [z2, pk_us, e1, g3]; omega
          · rw [pk_un z2, g4 x z2]; exact h3 x hx
theorem zAp_cl {am ac : Nat → Int32} (h : zAp am) : zAp (f_cl am ac).1 := by
  obtain ⟨h1, h2⟩ := zAp_fa (ac := ac) h 8 (Nat.le_refl 8)
  refine zAp_clF 8 _ _ _ _ ⟨h1, fun x hx => ?_, fun x hx => ?_⟩
  · have e := z_posT h hx
    have b1 := zCn_bd h hx 8 (Nat.le_refl 8)
    have b2 := zDn_nn h hx 8 (Nat.le_refl 8)
    have b3 := h.2 x hx
    show -4000 ≤ (f_pos am x).toInt ∧ (f_pos am x).toInt ≤ 4000
    omega
  · have e := z_posT h hx
    have b1 := zCn_bd h hx 8 (Nat.le_refl 8)
    have b3 := h.2 x hx
    have e9 : ∀ n, n ≤ 8 → zDn (f_faN am ac 8).1 x n = 0 := by
      intro n
      induction n with
      | zero => intro _; rfl
      | succ n ih =>
        intro hn
        show zDn (f_faN am ac 8).1 x n + ((f_faN am ac 8).1 (8 * x + n)).toInt = 0
        rw [ih (by omega), h2 _ (by omega), Int32.toInt_zero]
        rfl
    show zDn (f_faN am ac 8).1 x 8 - (f_pos am x).toInt ≤ 500
    rw [e9 8 (Nat.le_refl 8), e]
    omega
/-- what holds of every ledger that the law reaches -/
def zIv (L : zL) : Prop := (3 ≤ lMc L ∧ lMc L ≤ 8) ∧ zAp (lAm L) ∧ (∀ x, x < 8 → 0 ≤ (lLi L x).toInt ∧ (lLi L x).toInt ≤ 500) ∧ (∀ x, x < 8 → 0 ≤ (lCa L x).toInt ∧ (lCa L x).toInt ≤ 99) ∧ 0 ≤ (lHc L).toInt
theorem z_nIt {n : Nat} (h : n < 2147483648) : (nI n).toInt = n := nI_toInt h
theorem z_isAm {u : Int32} (h : ¬ f_isAm u = 0) : 1 ≤ u.toInt ∧ u.toInt ≤ 99 := by
  unfold f_isAm at h
  split at h
  · exact absurd rfl h
  · next h1 =>
    split at h
    · exact absurd rfl h
    · next h2 =>
      have g1 : ¬ u.toInt < (1 : Int32).toInt := fun q => h1 (z_ltT.mpr q)
      have g2 : ¬ (99 : Int32).toInt < u.toInt := fun q => h2 (z_ltT.mpr q)
      have e1 : (1 : Int32).toInt = 1 := rfl
      have e2 : (99 : Int32).toInt = 99 := rfl
      omega
theorem z_upT {f : Nat → Int32} {x : Nat} {w : Int32} {a b : Int} (hw : a ≤ w.toInt ∧ w.toInt ≤ b) (h : ∀ k, k < 8 → a ≤ (f k).toInt ∧ (f k).toInt ≤ b) : ∀ k, k < 8 → a ≤ (upd f x w k).toInt ∧ (upd f x w k).toInt ≤ b := fun k hk => by
  by_cases q : k = x
  · rw [q, pk_us]; exact hw
  · rw [pk_un q]; exact h k hk
theorem zIv_join {L : zL} (h : zIv L) (hf : f_onJoin (lMc L) = 0) : zIv (lJoin L) := by
  have := z_onJoin hf h.1.2
  exact ⟨⟨by show 3 ≤ lMc L + 1; have := h.1.1; omega, by show lMc L + 1 ≤ 8; omega⟩, h.2.1, z_upT (by decide) h.2.2.1, h.2.2.2.1, h.2.2.2.2⟩
theorem zIv_debt {L : zL} {v w u : Int32} (h : zIv L) (hf : f_onDebt (lMc L) (lAm L) (lLi L) (zBo (lBo L)) v w u = 0) : zIv (lDebt L v w u) ∧ 1 ≤ (lAm L (8 * z_n v + z_n w) + u).toInt := by
  obtain ⟨x, y, hx, hy, hxy, rfl, rfl, ham⟩ := z_onPA (z_onDebt hf) h.1.2
  have hm := h.1.2
  have hx8 : x < 8 := by omega
  have hy8 : y < 8 := by omega
  have hu := z_isAm ham
  have h2 : f_debit (lAm L) x + u ≤ lLi L x := by
    unfold f_onDebt at hf
    rw [if_pos (z_onDebt hf), z_nn hx8] at hf
    split at hf
    · split at hf
      · assumption
      · exact absurd hf (by decide)
    · exact absurd hf (by decide)
  have h3 := z_debitT h.2.1 hx8
  have h4 := h.2.1.2 x hx8
  have h5 := zDn_nn h.2.1 hx8 8 (Nat.le_refl 8)
  have h6 := h.2.2.1 x hx8
  have h7 := zAp_am h.2.1 (p := 8 * x + y) (by omega)
  have h8 : zDn (lAm L) x 8 + u.toInt ≤ 500 := by
    have := z_leT.mp h2
    rw [z_addI (by omega) (by omega), h3] at this
    omega
  obtain ⟨g1, g2, -, -⟩ := z_chA h.2.1 (v := u) hx8 hy8 (by omega) h8
  rw [z_nn hx8, z_nn hy8]
  refine ⟨⟨h.1, ?_, h.2.2⟩, by rw [g2]; omega⟩
  show zAp (f_chA (lAm L) (z_n (nI x)) (z_n (nI y)) u)
  rw [z_nn hx8, z_nn hy8]
  exact g1
theorem zIv_pay {L : zL} {v w u : Int32} (h : zIv L) (hf : f_onPay (lMc L) (lAm L) (lCo L) v w u = 0) : zIv (lPay L v w u) ∧ 0 ≤ (lAm L (8 * z_n v + z_n w) + -u).toInt := by
  obtain ⟨x, y, hx, hy, hxy, rfl, rfl, ham⟩ := z_onPA (z_onPay hf) h.1.2
  have hm := h.1.2
  have hx8 : x < 8 := by omega
  have hy8 : y < 8 := by omega
  have hu := z_isAm ham
  have h2 : u ≤ lAm L (8 * x + y) := by
    unfold f_onPay at hf
    rw [if_pos (z_onPay hf), z_nn hx8, z_nn hy8] at hf
    split at hf
    · assumption
    · exact absurd hf (by decide)
  have h4 := h.2.1.2 x hx8
  have h7 := z_leT.mp h2
  have hn : (-u).toInt = -u.toInt := z_negI2 (by omega)
  obtain ⟨g1, g2, -, -⟩ := z_chA h.2.1 (v := -u) hx8 hy8 (by omega) (by omega)
  rw [z_nn hx8, z_nn hy8]
  refine ⟨⟨h.1, ?_, h.2.2⟩, by rw [g2]; omega⟩
  show zAp (f_chA (lAm L) (z_n (nI x)) (z_n (nI y)) (-u))
  rw [z_nn hx8, z_nn hy8]
  exact g1
theorem zIv_n2 {L : zL} {v w : Int32} (h : zIv L) (hf : f_onPair (lMc L) v w = 0) : zIv (lN2 L v w) ∧ 0 ≤ (f_n2 (lAm L) (z_n v) (z_n w)).toInt := by
  obtain ⟨x, y, hx, hy, hxy, rfl, rfl⟩ := z_onPair hf h.1.2
  have hm := h.1.2
  have hx8 : x < 8 := by omega
  have hy8 : y < 8 := by omega
  have a1 := zAp_am h.2.1 (p := 8 * x + y) (by omega)
  have a2 := zAp_am h.2.1 (p := 8 * y + x) (by omega)
  have d1 := h.2.1.2 x hx8
  have d2 := h.2.1.2 y hy8
  have e : (f_n2 (lAm L) x y).toInt = min (lAm L (8 * x + y)).toInt (lAm L (8 * y + x)).toInt := z_minT _ _
  have en : (-(f_n2 (lAm L) x y)).toInt = -(f_n2 (lAm L) x y).toInt := z_negI2 (by omega)
  obtain ⟨g1, g2, g3, g4⟩ := z_chA h.2.1 (v := -(f_n2 (lAm L) x y)) hx8 hy8 (by omega) (by omega)
  have o1 : f_chA (lAm L) x y (-(f_n2 (lAm L) x y)) (8 * y + x) = lAm L (8 * y + x) := f_chA_off (by omega)
  obtain ⟨k1, -, -, -⟩ := z_chA g1 (v := -(f_n2 (lAm L) x y)) hy8 hx8 (by rw [o1]; omega) (by rw [g4 y (Ne.symm hxy)]; omega)
  rw [z_nn hx8, z_nn hy8]
  refine ⟨⟨h.1, ?_, h.2.2⟩, by omega⟩
  show zAp (f_chA (f_chA (lAm L) (z_n (nI x)) (z_n (nI y)) (-(f_n2 (lAm L) (z_n (nI x)) (z_n (nI y))))) (z_n (nI y)) (z_n (nI x)) (-(f_n2 (lAm L) (z_n (nI x)) (z_n (nI y)))))
  rw [z_nn hx8, z_nn hy8]
  exact k1
theorem z_onTri2 {mc : Nat} {am : Nat → Int32} {v w u : Int32} (h : f_onTri mc am v w u = 0) : (v ≠ w ∧ w ≠ u ∧ u ≠ v) ∧ ¬ am (8 * z_n v + z_n w) ≤ 0 ∧ ¬ am (8 * z_n w + z_n u) ≤ 0 ∧ ¬ am (8 * z_n u + z_n v) ≤ 0 := by
  unfold f_onTri at h
  repeat' split at h
  all_goals first | exact absurd h (by decide) | (next h1 h2 h3 h4 h5 h6 => exact ⟨⟨h1, h2, h3⟩, h4, h5, h6⟩)
theorem zIv_n3 {L : zL} {v w u : Int32} (h : zIv L) (hf : f_onTri (lMc L) (lAm L) v w u = 0) : zIv (lN3 L v w u) ∧ 0 ≤ (f_n3 (lAm L) (z_n v) (z_n w) (z_n u)).toInt := by
  obtain ⟨⟨n1, n2, n3⟩, p1, p2, p3⟩ := z_onTri2 hf
  obtain ⟨x, y, z, hx, hy, hz, rfl, rfl, rfl⟩ := z_onTri hf h.1.2
  have hm := h.1.2
  have hx8 : x < 8 := by omega
  have hy8 : y < 8 := by omega
  have hz8 : z < 8 := by omega
  have m1 : x ≠ y := fun q => n1 (by rw [q])
  have m2 : y ≠ z := fun q => n2 (by rw [q])
  have m3 : z ≠ x := fun q => n3 (by rw [q])
  have a1 := zAp_am h.2.1 (p := 8 * x + y) (by omega)
  have a2 := zAp_am h.2.1 (p := 8 * y + z) (by omega)
  have a3 := zAp_am h.2.1 (p := 8 * z + x) (by omega)
  have d1 := h.2.1.2 x hx8
  have d2 := h.2.1.2 y hy8
  have d3 := h.2.1.2 z hz8
  have e : (f_n3 (lAm L) x y z).toInt = min (min (lAm L (8 * x + y)).toInt (lAm L (8 * y + z)).toInt) (lAm L (8 * z + x)).toInt := by
    show (z_min (z_min _ _) _).toInt = _
    rw [z_minT, z_minT]
  have en : (-(f_n3 (lAm L) x y z)).toInt = -(f_n3 (lAm L) x y z).toInt := z_negI2 (by omega)
  obtain ⟨g1, g2, g3, g4⟩ := z_chA h.2.1 (v := -(f_n3 (lAm L) x y z)) hx8 hy8 (by omega) (by omega)
  have o1 : f_chA (lAm L) x y (-(f_n3 (lAm L) x y z)) (8 * y + z) = lAm L (8 * y + z) := f_chA_off (by omega)
  have o2 : f_chA (lAm L) x y (-(f_n3 (lAm L) x y z)) (8 * z + x) = lAm L (8 * z + x) := f_chA_off (by omega)
  obtain ⟨k1, k2, k3, k4⟩ := z_chA g1 (v := -(f_n3 (lAm L) x y z)) hy8 hz8 (by rw [o1]; omega) (by rw [g4 y (Ne.symm m1)]; omega)
  have o3 : f_chA (f_chA (lAm L) x y (-(f_n3 (lAm L) x y z))) y z (-(f_n3 (lAm L) x y z)) (8 * z + x) = lAm L (8 * z + x) := (f_chA_off (by omega)).trans o2
  obtain ⟨j1, -, -, -⟩ := z_chA k1 (v := -(f_n3 (lAm L) x y z)) hz8 hx8 (by rw [o3]; omega) (by rw [k4 z (Ne.symm m2), g4 z m3]; omega)
  rw [z_nn hx8, z_nn hy8, z_nn hz8]
  refine ⟨⟨h.1, ?_, h.2.2⟩, by omega⟩
  show zAp (f_chA (f_chA (f_chA (lAm L) (z_n (nI x)) (z_n (nI y)) (-(f_n3 (lAm L) (z_n (nI x)) (z_n (nI y)) (z_n (nI z))))) (z_n (nI y)) (z_n (nI z)) (-(f_n3 (lAm L) (z_n (nI x)) (z_n (nI y)) (z_n (nI z))))) (z_n (nI z)) (z_n (nI x)) (-(f_n3 (lAm L) (z_n (nI x)) (z_n (nI y)) (z_n (nI z)))))
  rw [z_nn hx8, z_nn hy8, z_nn hz8]
  exact j1
theorem zIv_clr {L : zL} (h : zIv L) : zIv (lClr L) := ⟨h.1, zAp_cl h.2.1, h.2.2⟩
theorem z_onPl2 {mc : Nat} {ca : Nat → Int32} {v u : Int32} (h : f_onPl mc ca v u = 0) : ¬ f_isAm u = 0 ∧ ca (z_n v) + u ≤ 99 := by
  unfold f_onPl at h
  repeat' split at h
  all_goals first | exact absurd h (by decide) | (next h1 h2 => exact ⟨h1, h2⟩)
theorem zIv_plg {L : zL} {v u : Int32} (h : zIv L) (hf : f_onPl (lMc L) (lCa L) v u = 0) : zIv (lPlg L v u) ∧ 1 ≤ (lCa L (z_n v) + u).toInt := by
  obtain ⟨h1, h2⟩ := z_onPl2 hf
  obtain ⟨x, hx, rfl⟩ := z_onPl hf h.1.2
  have hm := h.1.2
  have hx8 : x < 8 := by omega
  have hu := z_isAm h1
  have hc := h.2.2.2.1 x hx8
  rw [z_nn hx8] at h2
  have h3 := z_leT.mp h2
  have e9 : (99 : Int32).toInt = 99 := rfl
  have e : (lCa L x + u).toInt = (lCa L x).toInt + u.toInt := z_addI (by omega) (by omega)
  rw [z_nn hx8]
  refine ⟨⟨h.1, h.2.1, h.2.2.1, ?_, h.2.2.2.2⟩, by omega⟩
  show ∀ k, k < 8 → 0 ≤ (upd (lCa L) (z_n (nI x)) (lCa L (z_n (nI x)) + u) k).toInt ∧ (upd (lCa L) (z_n (nI x)) (lCa L (z_n (nI x)) + u) k).toInt ≤ 99
  rw [z_nn hx8]
  exact z_upT (by omega) h.2.2.2.1
theorem z_onLi2 {mc : Nat} {am : Nat → Int32} {v u : Int32} (h : f_onLi mc am v u = 0) : ¬ u < 0 ∧ u ≤ 500 ∧ f_debit am (z_n v) ≤ u := by
  unfold f_onLi at h
  repeat' split at h
  all_goals first | exact absurd h (by decide) | (next h1 h2 h3 => exact ⟨h1, h2, h3⟩)
theorem zIv_lim {L : zL} {v u : Int32} (h : zIv L) (hf : f_onLi (lMc L) (lAm L) v u = 0) : zIv (lLim L v u) ∧ 0 ≤ (lLi L (z_n v)).toInt := by
  obtain ⟨h1, h2, -⟩ := z_onLi2 hf
  obtain ⟨x, hx, rfl⟩ := z_onLi hf h.1.2
  have hm := h.1.2
  have hx8 : x < 8 := by omega
  have g1 : ¬ u.toInt < 0 := fun q => h1 (z_ltT.mpr (by rw [Int32.toInt_zero]; exact q))
  have g2 := z_leT.mp h2
  have e9 : (500 : Int32).toInt = 500 := rfl
  rw [z_nn hx8]
  exact ⟨⟨h.1, h.2.1, z_upT (by omega) h.2.2.1, h.2.2.2⟩, (h.2.2.1 x hx8).1⟩
theorem z_onHc2 {u : Int32} (h : f_onHc u = 0) : 0 ≤ u.toInt ∧ u.toInt ≤ 90 := by
  unfold f_onHc at h
  split at h
  · exact absurd h (by decide)
  · next h1 =>
    split at h
    · next h2 =>
      have g1 : ¬ u.toInt < 0 := fun q => h1 (z_ltT.mpr (by rw [Int32.toInt_zero]; exact q))
      have g2 := z_leT.mp h2
      have e9 : (90 : Int32).toInt = 90 := rfl
      omega
    · exact absurd h (by decide)
theorem zIv_hrc {L : zL} {u : Int32} (h : zIv L) (hf : f_onHc u = 0) : zIv (lHrc L u) := ⟨h.1, h.2.1, h.2.2.1, h.2.2.2.1, (z_onHc2 hf).1⟩
theorem z_onDf2 {mc : Nat} {am co ca de : Nat → Int32} {hc v : Int32} (h : f_onDf mc am co ca de hc v = 0) : ¬ f_loss am co ca hc (z_n v) ≤ 0 := by
  unfold f_onDf at h
  repeat' split at h
  all_goals first | exact absurd h (by decide) | assumption
theorem zIv_fal {L : zL} {v : Int32} (rm : Nat → Int32) (h : zIv L) (hf : f_onDf (lMc L) (lAm L) (lCo L) (lCa L) (zBo (lBo L)) (lHc L) v = 0) : zIv (lFal L rm v) ∧ 0 < (f_loss (lAm L) (lCo L) (lCa L) (lHc L) (z_n v)).toInt := by
  have h1 := z_onDf2 hf
  obtain ⟨x, hx, rfl⟩ := z_onDf hf h.1.2
  have hm := h.1.2
  have hx8 : x < 8 := by omega
  refine ⟨⟨h.1, ?_, h.2.2.1, z_upT (by decide) h.2.2.2.1, h.2.2.2.2⟩, ?_⟩
  · show zAp (f_fgN (lAm L) (lAc L) (z_n (nI x)) 8).1
    rw [z_nn hx8]
    exact (zAp_fg hx8 h.2.1 8 (Nat.le_refl 8)).1
  · have : ¬ (f_loss (lAm L) (lCo L) (lCa L) (lHc L) (z_n (nI x))).toInt ≤ 0 := fun q => h1 (z_leT.mpr (by rw [Int32.toInt_zero]; exact q))
    omega
/-- commands keep it -/
theorem zIv_cy {L : zL} {rm : Nat → Int32} {nc : Nat} {nu : Nat → Int32} {i : Nat} (h : zIv L) (hi : i < 8) (hf : f_roL L nc nu i = 0) : zIv (f_cyL L rm nc nu i) := by
  rcases (by omega : i = 0 ∨ i = 1 ∨ i = 2 ∨ i = 3 ∨ i = 4 ∨ i = 5 ∨ i = 6 ∨ i = 7) with rfl | rfl | rfl | rfl | rfl | rfl | rfl | rfl
  · exact zIv_join h hf
  · exact (zIv_debt h hf).1
  · exact (zIv_pay h hf).1
  · exact (zIv_n2 h hf).1
  · exact (zIv_n3 h hf).1
  · exact zIv_clr h
  · exact (zIv_plg h hf).1
  · exact (zIv_fal rm h hf).1
theorem zIv_cu {tx : Nat → Int32} {ln : Nat} : ∀ (k x n : Nat) (L : zL) (s : zR3) (r : Int32) (L' : zL), zIv L → f_cuR tx ln k x n L s r L' → zIv L'
  | 0, _, _, _, _, _, _, h, q => by rw [q.2]; exact h
  | k + 1, x, n, L, s, r, L', h, q => by
    rcases q with ⟨-, -, rfl⟩ | ⟨i, h1, ⟨-, -, rfl⟩ | ⟨h2, rm, h3⟩⟩
    · exact h
    · exact h
    · exact zIv_cu k _ _ _ _ r L' (zIv_cy h (f_cm_lt h1) h2) h3
