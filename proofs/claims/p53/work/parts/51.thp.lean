/-! CALLS THAT THROW: which exception -/
theorem z_hM {mc : Nat} (hm : mc ≤ 8) : f_has mc (nI mc) = 0 := by
  unfold f_has
  rw [if_neg (nI_pos (by omega))]
  exact if_pos (Int32.le_refl _)
theorem z_hN (mc : Nat) : f_has mc (-1) = 0 := by
  unfold f_has
  exact if_pos (by decide)
theorem z_h0 {mc : Nat} (h : 3 ≤ mc) (hm : mc ≤ 8) : f_has mc 0 = 1 := z_hasN (x := 0) (by omega) hm
theorem z_h1 {mc : Nat} (h : 3 ≤ mc) (hm : mc ≤ 8) : f_has mc 1 = 1 := z_hasN (x := 1) (by omega) hm
theorem t_om {mc : Nat} {v : Int32} (h : f_has mc v = 0) : f_onMember mc v = 1 := by unfold f_onMember; exact if_pos h
theorem t_jn {mc : Nat} (h : mc = 8) : f_onJoin mc = 3 := by subst h; decide
theorem t_pr1 {mc : Nat} {v w : Int32} (h : f_has mc v = 0) : f_onPair mc v w = 1 := by unfold f_onPair; exact if_pos h
theorem t_pr2 {mc : Nat} {v w : Int32} (h1 : f_has mc v = 1) (h : f_has mc w = 0) : f_onPair mc v w = 1 := by unfold f_onPair; rw [h1, if_neg (by decide)]; exact if_pos h
theorem t_pr3 {mc : Nat} {v w : Int32} (h1 : f_has mc v = 1) (h2 : f_has mc w = 1) (e : v = w) : f_onPair mc v w = 2 := by unfold f_onPair; rw [h1, h2, if_neg (by decide), if_neg (by decide)]; exact if_pos e
theorem t_pr0 {mc : Nat} {v w : Int32} (h1 : f_has mc v = 1) (h2 : f_has mc w = 1) (e : ¬ v = w) : f_onPair mc v w = 0 := by unfold f_onPair; rw [h1, h2, if_neg (by decide), if_neg (by decide)]; exact if_neg e
theorem t_paP {mc c : Nat} {v w u : Int32} (h : f_onPair mc v w = c) (hc : ¬ c = 0) : f_onPA mc v w u = c := by unfold f_onPA; rw [h]; exact if_neg hc
theorem t_paA {mc : Nat} {v w u : Int32} (h : f_onPair mc v w = 0) (ha : f_isAm u = 0) : f_onPA mc v w u = 2 := by unfold f_onPA; rw [h, if_pos rfl]; exact if_pos ha
theorem t_pa0 {mc : Nat} {v w u : Int32} (h : f_onPair mc v w = 0) (ha : f_isAm u = 1) : f_onPA mc v w u = 0 := by unfold f_onPA; rw [h, if_pos rfl, ha]; rfl
theorem t_db {mc c : Nat} {am li de : Nat → Int32} {v w u : Int32} (h : f_onPA mc v w u = c) (hc : ¬ c = 0) : f_onDebt mc am li de v w u = c := by unfold f_onDebt; rw [h]; exact if_neg hc
theorem t_py {mc c : Nat} {am co : Nat → Int32} {v w u : Int32} (h : f_onPA mc v w u = c) (hc : ¬ c = 0) : f_onPay mc am co v w u = c := by unfold f_onPay; rw [h]; exact if_neg hc
theorem t_db4 {mc : Nat} {am li de : Nat → Int32} {v w u : Int32} (h : f_onPA mc v w u = 0) (hb : de (z_n v) = 0) (hl : ¬ f_debit am (z_n v) + u ≤ li (z_n v)) : f_onDebt mc am li de v w u = 4 := by unfold f_onDebt; rw [h, if_pos rfl, if_pos hb]; exact if_neg hl
theorem t_py3 {mc : Nat} {am co : Nat → Int32} {v w u : Int32} (h : f_onPA mc v w u = 0) (hl : ¬ u ≤ am (8 * z_n v + z_n w)) : f_onPay mc am co v w u = 3 := by unfold f_onPay; rw [h, if_pos rfl]; exact if_neg hl
theorem t_py4 {mc : Nat} {am co : Nat → Int32} {v w u : Int32} (h : f_onPA mc v w u = 0) (hl : u ≤ am (8 * z_n v + z_n w)) (h2 : ¬ u ≤ co (z_n v)) : f_onPay mc am co v w u = 4 := by unfold f_onPay; rw [h, if_pos rfl, if_pos hl]; exact if_neg h2
theorem t_tr1 {mc : Nat} {am : Nat → Int32} {v w u : Int32} (h : f_has mc v = 0) : f_onTri mc am v w u = 1 := by unfold f_onTri; exact if_pos h
theorem t_tr1c {mc : Nat} {am : Nat → Int32} {v w u : Int32} (h1 : f_has mc v = 1) (h2 : f_has mc w = 1) (h : f_has mc u = 0) : f_onTri mc am v w u = 1 := by unfold f_onTri; rw [h1, h2, if_neg (by decide), if_neg (by decide)]; exact if_pos h
theorem t_tr2 {mc : Nat} {am : Nat → Int32} {v w u : Int32} (h1 : f_has mc v = 1) (h2 : f_has mc w = 1) (h3 : f_has mc u = 1) (e : v = w ∨ w = u ∨ u = v) : f_onTri mc am v w u = 2 := by
  unfold f_onTri
  rw [h1, h2, h3, if_neg (by decide), if_neg (by decide), if_neg (by decide)]
  by_cases q1 : v = w
  · exact if_pos q1
  · rw [if_neg q1]
    by_cases q2 : w = u
    · exact if_pos q2
    · rw [if_neg q2]
      rcases e with q | q | q
      · exact absurd q q1
      · exact absurd q q2
      · exact if_pos q
theorem t_tr3 {mc : Nat} {am : Nat → Int32} {v w u : Int32} (h1 : f_has mc v = 1) (h2 : f_has mc w = 1) (h3 : f_has mc u = 1) (n1 : ¬ v = w) (n2 : ¬ w = u) (n3 : ¬ u = v) (e : am (8 * z_n v + z_n w) ≤ 0 ∨ am (8 * z_n w + z_n u) ≤ 0 ∨ am (8 * z_n u + z_n v) ≤ 0) : f_onTri mc am v w u = 3 := by
  unfold f_onTri
  rw [h1, h2, h3, if_neg (by decide), if_neg (by decide), if_neg (by decide), if_neg n1, if_neg n2, if_neg n3]
  by_cases q1 : am (8 * z_n v + z_n w) ≤ 0
  · exact if_pos q1
  · rw [if_neg q1]
    by_cases q2 : am (8 * z_n w + z_n u) ≤ 0
    · exact if_pos q2
    · rw [if_neg q2]
      rcases e with q | q | q
      · exact absurd q q1
      · exact absurd q q2
      · exact if_pos q
theorem t_pl1 {mc : Nat} {ca : Nat → Int32} {v u : Int32} (h : f_has mc v = 0) : f_onPl mc ca v u = 1 := by unfold f_onPl; exact if_pos h
theorem t_pl2 {mc : Nat} {ca : Nat → Int32} {v u : Int32} (h : f_has mc v = 1) (ha : f_isAm u = 0) : f_onPl mc ca v u = 2 := by unfold f_onPl; rw [h, if_neg (by decide)]; exact if_pos ha
theorem t_pl3 {mc : Nat} {ca : Nat → Int32} {v u : Int32} (h : f_has mc v = 1) (ha : f_isAm u = 1) (hl : ¬ ca (z_n v) + u ≤ 99) : f_onPl mc ca v u = 3 := by unfold f_onPl; rw [h, ha, if_neg (by decide), if_neg (by decide)]; exact if_neg hl
theorem t_li1 {mc : Nat} {am : Nat → Int32} {v u : Int32} (h : f_has mc v = 0) : f_onLi mc am v u = 1 := by unfold f_onLi; exact if_pos h
theorem t_li2 {mc : Nat} {am : Nat → Int32} {v u : Int32} (h : f_has mc v = 1) (hu : u < 0 ∨ ¬ u ≤ 500) : f_onLi mc am v u = 2 := by
  unfold f_onLi
  rw [h, if_neg (by decide)]
  by_cases q : u < 0
  · exact if_pos q
  · rw [if_neg q]
    exact if_neg (hu.resolve_left q)
theorem t_li3 {mc : Nat} {am : Nat → Int32} {v u : Int32} (h : f_has mc v = 1) (h0 : ¬ u < 0) (h5 : u ≤ 500) (hl : ¬ f_debit am (z_n v) ≤ u) : f_onLi mc am v u = 3 := by unfold f_onLi; rw [h, if_neg (by decide), if_neg h0, if_pos h5]; exact if_neg hl
theorem t_df1 {mc : Nat} {am co ca de : Nat → Int32} {hc v : Int32} (h : f_has mc v = 0) : f_onDf mc am co ca de hc v = 1 := by unfold f_onDf; exact if_pos h
theorem zIfE {f c : Nat} {v : Int32} {h : Nat → Int32} (hf : f = c) (hc : ¬ c = 0) : zIf f v h = h c := by rw [zIf, hf]; exact if_neg hc
theorem zIfZ {f : Nat} {v : Int32} {h : Nat → Int32} (hf : f = 0) : zIf f v h = v := by rw [zIf, hf]; exact if_pos rfl
theorem f_ahead_self (am co : Nat → Int32) (x : Nat) : f_ahead am co x x = 0 := by
  have e : f_cmp (f_pos am x) (f_pos am x) = 0 := by
    unfold f_cmp
    rw [if_pos (Int32.le_refl _)]
    exact if_pos rfl
  unfold f_ahead
  rw [if_pos e, if_pos rfl]
  exact if_pos (Int32.le_refl _)
theorem f_caN_bd (am co : Nat → Int32) (x : Nat) : ∀ i, i ≤ 8 → ∃ c, f_caN am co x i = nI c ∧ c ≤ i ∧ (x < i → c + 1 ≤ i)
  | 0, _ => ⟨0, rfl, Nat.le_refl 0, fun h => absurd h (Nat.not_lt_zero x)⟩
  | i + 1, hi => by
    obtain ⟨c, h1, h2, h3⟩ := f_caN_bd am co x i (by omega)
    by_cases q : f_ahead am co i x = 0
    · exact ⟨c, by show (if f_ahead am co i x = 0 then _ else _) = _; rw [if_pos q, h1], by omega, fun h => by omega⟩
    · refine ⟨c + 1, by show (if f_ahead am co i x = 0 then _ else _) = _; rw [if_neg q, h1, nI_1 c], by omega, fun h => ?_⟩
      have : x ≠ i := fun z => q (by rw [z]; exact f_ahead_self am co i)
      have := h3 (by omega)
      omega
theorem f_rankF_no {am co : Nat → Int32} {mc : Nat} {v : Int32} (h : ∀ x, x < mc → ¬ f_caN am co x mc = v) : ∀ k i, i + k ≤ mc → f_rankF am co mc v k i = -1
  | 0, _, _ => rfl
  | k + 1, i, hk => by
    show (if f_caN am co i mc = v then nI i else f_rankF am co mc v k (i + 1)) = -1
    rw [if_neg (h i (by omega))]
    exact f_rankF_no h k (i + 1) (by omega)
theorem t_rkM {am co : Nat → Int32} {mc : Nat} (hm : mc ≤ 8) : (if f_rank am co mc (nI mc) = -1 then 5 else 0) = 5 := if_pos (f_rankF_no (fun x hx q => by
  obtain ⟨c, h1, -, h3⟩ := f_caN_bd am co x mc hm
  rw [h1] at q
  have := (nI_eq (by omega) (by omega)).mp q
  have := h3 hx
  omega) mc 0 (by omega))
theorem t_rkN {am co : Nat → Int32} {mc : Nat} (hm : mc ≤ 8) : (if f_rank am co mc (-1) = -1 then 5 else 0) = 5 := if_pos (f_rankF_no (fun x hx q => by
  obtain ⟨c, h1, h2, -⟩ := f_caN_bd am co x mc hm
  rw [h1] at q
  have h4 : (nI c).toInt = (-1 : Int32).toInt := congrArg Int32.toInt q
  rw [nI_toInt (by omega)] at h4
  have e9 : (-1 : Int32).toInt = -1 := rfl
  omega) mc 0 (by omega))
theorem f_cntN_bd {am : Nat → Int32} : ∀ n, n ≤ 64 → ∃ c, f_cntN am n = nI c ∧ c ≤ n ∧ (c = 0 → f_placeN am n = (0, -1))
  | 0, _ => ⟨0, rfl, Nat.le_refl 0, fun _ => rfl⟩
  | n + 1, hn => by
    obtain ⟨c, h1, h2, h3⟩ := f_cntN_bd (am := am) n (by omega)
    by_cases q : am n ≤ 0
    · refine ⟨c, by show (if am n ≤ 0 then _ else _) = _; rw [if_pos q, h1], by omega, fun hc => ?_⟩
      show (if am n ≤ (f_placeN am n).1 then f_placeN am n else (am n, nI n)) = _
      rw [h3 hc]
      exact if_pos q
    · exact ⟨c + 1, by show (if am n ≤ 0 then _ else _) = _; rw [if_neg q, h1, nI_1 c], by omega, fun hc => by omega⟩
theorem t_plc {am : Nat → Int32} (h : ¬ 0 < f_cnt am) : (if f_place am = -1 then 5 else 0) = 5 := by
  obtain ⟨c, h1, h2, h3⟩ := f_cntN_bd (am := am) 64 (Nat.le_refl 64)
  have hc : c = 0 := by
    rcases Nat.eq_zero_or_pos c with q | q
    · exact q
    · refine absurd ?_ h
      show 0 < f_cntN am 64
      rw [h1]
      exact z_ltT.mpr (by rw [nI_toInt (by omega), Int32.toInt_zero]; omega)
  have e : f_place am = -1 := by
    show (f_placeN am 64).2 = -1
    rw [h3 hc]
  exact if_pos e
theorem z_sz2 {v : Int32} (h1 : 0 < v) (h2 : v.toInt ≤ 99) : f_sz v ≤ 2 := by
  have h3 := z_ltT.mp h1
  rw [Int32.toInt_zero] at h3
  have e : v = nI v.toInt.toNat := by
    apply Int32.toInt_inj.mp
    rw [nI_toInt (by omega)]
    omega
  have : ∀ k, k < 100 → f_sz (nI k) ≤ 2 := by decide +kernel
  rw [e]
  exact this _ (by omega)
theorem f_wN_len {am co : Nat → Int32} {bo : Nat → Bool} {x : Nat} (hx : x < 8) (h : zAp am) (h9 : zDn am x 8 ≤ 99) (hc : co x = 30) (hb : bo x = false) : ∀ i, i ≤ 8 → (f_wN am co bo x i).1 ≤ 3 + 6 * i
  | 0, _ => by
    show (f_w0 co bo x).1 ≤ 3
    unfold f_w0
    have e : zBo bo x = 0 := by unfold zBo; rw [hb]; rfl
    rw [if_pos e, hc]
    decide
  | i + 1, hi => by
    have h1 := f_wN_len hx h h9 hc hb i (by omega)
    show (f_w1 (f_wN am co bo x i) i (am (8 * x + i))).1 ≤ 3 + 6 * (i + 1)
    unfold f_w1
    by_cases q : am (8 * x + i) ≤ 0
    · rw [if_pos q]; omega
    · rw [if_neg q]
      have h2 : (am (8 * x + i)).toInt ≤ 99 := by
        have g1 := zDn_nn h hx i (by omega)
        have g2 := zDn_mono h hx (n := i + 1) (by omega) (7 - i) (by omega)
        rw [show i + 1 + (7 - i) = 8 by omega] at g2
        have g3 : zDn am x (i + 1) = zDn am x i + (am (8 * x + i)).toInt := rfl
        omega
      have h3 := z_sz2 (Int32.not_le.mp q) h2
      have h4 := f_sz_i (i := i) (by omega)
      show (f_wN am co bo x i).1 + 1 + 1 + f_sz (nI i) + 1 + f_sz (am (8 * x + i)) ≤ 3 + 6 * (i + 1)
      omega
theorem t_oc {mc bn : Nat} {b : Int} {L : zL} (h : zMd mc b L) (h3 : 3 ≤ mc) (hb : bn = (f_w (lAm L) (lCo L) (lBo L) (z_n (nI (mc - 1)))).1) : f_oc bn 120 = 1 := by
  have hm := h.1.2
  rw [z_nn (show mc - 1 < 8 by omega)] at hb
  have h1 := f_wN_len (x := mc - 1) (by omega) h.2.1.1 (h.2.1.2 _ (by omega)) (h.2.2.1 _ (by omega)).2 (h.2.2.2.2.2.1 _ (by omega)) 8 (Nat.le_refl 8)
  have h2 : bn ≤ 51 := by rw [hb]; exact h1
  unfold f_oc
  rw [if_neg (by decide)]
  refine if_neg (fun q => ?_)
  have := (nI_ltI (a := 120) (b := bn) (by decide) (by omega)).mp q
  omega
theorem t_ocN (bn : Nat) : f_oc bn (-1) = 1 := by unfold f_oc; exact if_pos (by decide)
theorem z_modN {a n : Nat} (h1 : 1 ≤ n) (hn : n < 2147483648) (ha : a < 2147483648) : nI a - nI a / nI n * nI n = nI (a % n) := by
  have d1 := Nat.div_le_self a n
  have d2 := Nat.div_mul_le_self a n
  have d3 := Nat.mod_lt a (show n > 0 by omega)
  have d4 : a / n * n + a % n = a := by rw [Nat.mul_comm]; exact Nat.div_add_mod a n
  obtain ⟨q9, hq9⟩ : ∃ q9, q9 = a / n := ⟨_, rfl⟩
  obtain ⟨m9, hm9⟩ : ∃ m9, m9 = a % n := ⟨_, rfl⟩
  rw [← hq9] at d1 d2
  rw [← hm9] at d3 ⊢
  rw [← hq9, ← hm9] at d4
  have e1 : (nI a / nI n).toInt = ((q9 : Nat) : Int) := by
    rw [Int32.toInt_div, nI_toInt ha, nI_toInt hn, ← Int.ofNat_tdiv, ← hq9]
    exact Int.bmod_eq_of_le (by omega) (by omega)
  have e2 : (nI a / nI n * nI n).toInt = ((q9 * n : Nat) : Int) := by
    rw [Int32.toInt_mul, e1, nI_toInt hn, ← Int.natCast_mul]
    exact Int.bmod_eq_of_le (by omega) (by omega)
  apply Int32.toInt_inj.mp
  rw [Int32.toInt_sub, nI_toInt ha, e2, nI_toInt (by omega)]
  rw [Int.bmod_eq_of_le (by omega) (by omega)]
  omega
theorem z_q1 {m n : Nat} (h : m < n) (h3 : 3 ≤ n) : (m + 1) % n < n ∧ (m + 1) % n ≠ m := by
  refine ⟨Nat.mod_lt _ (by omega), ?_⟩
  rcases (by omega : m + 1 < n ∨ m + 1 = n) with q | q
  · rw [Nat.mod_eq_of_lt q]; omega
  · rw [q, Nat.mod_self]; omega
theorem z_q2 {m n : Nat} (h : m < n) (h3 : 3 ≤ n) : (m + 2) % n < n ∧ (m + 2) % n ≠ m ∧ (m + 2) % n ≠ (m + 1) % n := by
  refine ⟨Nat.mod_lt _ (by omega), ?_⟩
  rcases (by omega : m + 2 < n ∨ m + 2 = n ∨ m + 1 = n) with q | q | q
  · rw [Nat.mod_eq_of_lt q, Nat.mod_eq_of_lt (by omega)]; omega
  · rw [q, Nat.mod_self, Nat.mod_eq_of_lt (by omega)]; omega
  · rw [q, Nat.mod_self, show m + 2 = 1 + n by omega, Nat.add_mod_right, Nat.mod_eq_of_lt (by omega)]; omega
theorem z_posD {d : Int32} (h : ¬ d ≤ 0) : 1 ≤ d.toInt := by
  have : ¬ d.toInt ≤ 0 := fun q => h (z_leT.mpr (by rw [Int32.toInt_zero]; exact q))
  omega
theorem z_isA {u : Int32} (h1 : 1 ≤ u.toInt) (h2 : u.toInt ≤ 99) : f_isAm u = 1 := by
  have e1 : (1 : Int32).toInt = 1 := rfl
  have e2 : (99 : Int32).toInt = 99 := rfl
  unfold f_isAm
  rw [if_neg (fun q => by
    have := z_ltT.mp q
    omega)]
  exact if_neg (fun q => by
    have := z_ltT.mp q
    omega)
theorem z_dm {d : Int32} (h : ¬ d ≤ 0) (h9 : d.toInt ≤ 99) : ¬ d - 1 < 0 ∧ d - 1 ≤ 500 ∧ ¬ d ≤ d - 1 := by
  have h1 := z_posD h
  have e1 : (1 : Int32).toInt = 1 := rfl
  have e5 : (500 : Int32).toInt = 500 := rfl
  have e : (d - 1).toInt = d.toInt - 1 := by rw [z_subI (by omega) (by omega), e1]
  refine ⟨fun q => ?_, z_leT.mpr (by omega), fun q => ?_⟩
  · have := z_ltT.mp q
    rw [Int32.toInt_zero] at this
    omega
  · have := z_leT.mp q
    omega
theorem z_pl {d : Int32} (h : ¬ d ≤ 0) (h9 : d.toInt ≤ 99) : f_isAm (100 - d) = 1 ∧ ¬ d + (100 - d) ≤ 99 := by
  have h1 := z_posD h
  have e1 : (100 : Int32).toInt = 100 := rfl
  have e2 : (99 : Int32).toInt = 99 := rfl
  have e : (100 - d).toInt = 100 - d.toInt := by rw [z_subI (by omega) (by omega), e1]
  refine ⟨z_isA (by omega) (by omega), fun q => ?_⟩
  have := z_leT.mp q
  rw [z_addI (by omega) (by omega)] at this
  omega
theorem z_ad {d : Int32} (h0 : 0 ≤ d.toInt) (h9 : d.toInt ≤ 99) (hl : ¬ 99 ≤ 99 - d) : f_isAm (99 - d + 1) = 1 ∧ ¬ d + (99 - d + 1) ≤ 99 := by
  have e1 : (1 : Int32).toInt = 1 := rfl
  have e2 : (99 : Int32).toInt = 99 := rfl
  have e : (99 - d).toInt = 99 - d.toInt := by rw [z_subI (by omega) (by omega), e2]
  have h1 : 1 ≤ d.toInt := by
    have : ¬ (99 : Int32).toInt ≤ (99 - d).toInt := fun q => hl (z_leT.mpr q)
    omega
  have e3 : (99 - d + 1).toInt = 100 - d.toInt := by rw [z_addI (by omega) (by omega)]; omega
  refine ⟨z_isA (by omega) (by omega), fun q => ?_⟩
  have := z_leT.mp q
  rw [z_addI (by omega) (by omega)] at this
  omega
theorem z_py {a : Int32} (h0 : 0 ≤ a.toInt) (hl : ¬ 99 ≤ a) : f_isAm (a + 1) = 1 ∧ ¬ a + 1 ≤ a := by
  have e1 : (1 : Int32).toInt = 1 := rfl
  have e2 : (99 : Int32).toInt = 99 := rfl
  have h1 : ¬ (99 : Int32).toInt ≤ a.toInt := fun q => hl (z_leT.mpr q)
  have e3 : (a + 1).toInt = a.toInt + 1 := by rw [z_addI (by omega) (by omega)]; omega
  refine ⟨z_isA (by omega) (by omega), fun q => ?_⟩
  have := z_leT.mp q
  omega
theorem z_py31 {a : Int32} (h : ¬ a ≤ 30) : 30 + 1 ≤ a := by
  have e1 : (30 : Int32).toInt = 30 := rfl
  have h1 : ¬ a.toInt ≤ (30 : Int32).toInt := fun q => h (z_leT.mpr q)
  exact z_leT.mpr (show (30 + 1 : Int32).toInt ≤ a.toInt by rw [show (30 + 1 : Int32).toInt = 31 from rfl]; omega)
theorem t_df3 {mc : Nat} {am co ca de : Nat → Int32} {hc v : Int32} (hm : f_has mc v = 1) (h : zIf (f_onDf mc am co ca de hc v) (f_loss am co ca hc (z_n v)) (fun f => if f = 1 then -1001 else -1002) = -1002) : f_onDf mc am co ca de hc v = 3 := by
  rcases zc_onDf mc am co ca de hc v with q | q | q
  · have h1 := z_onDf2 q
    rw [zIfZ q] at h
    rw [h] at h1
    exact absurd (by decide) h1
  · rw [zIfE q (by decide)] at h
    exact absurd h (by decide)
  · exact q
theorem z_lgs (x : Int64) : lg_cmp x x = 0 := by
  unfold lg_cmp
  simp
