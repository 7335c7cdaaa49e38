/-! THE LAW ITSELF: rows of long arrays; what the history keeps; the first object's ledgers, one after another -/
section ZLJ
variable {p : Program} {l : Launch} {e : Env} {R : Room} {s : State} {m : MethodId} {args : Array Value} {below : List Frame} {meth : Method} {c : Code} {cells slots : Nat} {Q : State → Prop}
variable {cc : ByteArray} {nL : Nat} {own : String} {Ts : List Cond} {D : va_G} {tys : List (ClassId × FieldType)} {A : Nat → Prop} {wr ws : va_W} {lv : List (Nat × Value)} {st : List Value} {pc : Nat}
theorem z_newaL (F : zF p s m args meth c cc nL own Ts D tys A wr) (harr : Cond.arrayClass .long ∈ Ts) (t0 : Nat) {cA : ClassId} (ht : tys[t0]? = some (cA, .long)) {n : Int32} {N : Nat} (hn : ¬ n < 0) (hN : n.toNatClampNeg = N) (hb : N * 8 ≤ 536870912) (hcells : cells + 1 ≤ R.cells) (hslots : slots + N ≤ R.slots) {wf : Nat → va_W} (hw : ∀ q, ws ++ [(q, .inl (cA, N, .inr (.inl (fun _ => 0))))] = wf q) (d : decode cc pc = .ok (.newarray .long, 2)) (k : ∀ q : Nat, zW p l e R s m args below meth c nL D A Q (cells + 1) (slots + N) (wf q) lv (.ref q :: st) (pc + 2)) : zW p l e R s m args below meth c nL D A Q cells slots ws lv (.int n :: st) pc :=
  fun H locs ls hP hD hS hl => va_newa (atype := .long) F.1.1 F.1.2.1 (F.1.2.2.2.2 _ harr) rfl F.2.1 hP hD hS F.2.2.1 (a0 := (N, .inr (.inl (fun _ => 0)))) (fun _ => rfl) hn hN hb hcells hslots d (fun q cB H1 hK1 hP1 hD1 hS1 => by
    have e1 := va_nm_long (hK1.2 tys.length _ (by rw [List.getElem?_append_right (Nat.le_refl _), Nat.sub_self]; rfl)).2
    have e2 := va_nm_long (F.2.1.2 t0 _ ht).2
    obtain rfl : cB = cA := Option.some.inj (e1.symm.trans e2)
    exact k q H1 locs ls (hw q ▸ hP1) (hw q ▸ hD1) hS1 hl)
theorem z_lastN (F : zF p s m args meth c cc nL own Ts D tys A wr) {a : Nat} (q0 t0 : Nat) {cA : ClassId} {n : Nat} {f : Nat → Int64} (ha : ws[q0]? = some (a, .inl (cA, n, .inr (.inl f)))) (ht : tys[t0]? = some (cA, .long)) {j : Nat} {x : Int64} (hj : j < n) (hn : n < 2147483648) {ws' : va_W} (hw : ws.set q0 (a, .inl (cA, n, .inr (.inl (vp_updL f j x)))) = ws') (d : decode cc pc = .ok (.lastore, 1)) (k : zW p l e R s m args below meth c nL D A Q cells slots ws' lv st (pc + 1)) : zW p l e R s m args below meth c nL D A Q cells slots ws lv (.long x :: .int (nI j) :: .ref a :: st) pc := fun H locs ls hP hD hS hl => va_last F.1.1 F.1.2.1 F.2.1 hP hD hS q0 t0 ha ht (vp_in_nI hj hn) d (fun H1 locs1 hP1 hD1 hS1 => by
    rw [nI_clamp (Nat.lt_trans hj hn)] at hP1 hD1
    exact k H1 locs1 ls (hw ▸ hP1) (hw ▸ hD1) hS1 hl)
theorem z_laldN (F : zF p s m args meth c cc nL own Ts D tys A wr) {a : Nat} (q0 t0 : Nat) {cA : ClassId} {n : Nat} {f : Nat → Int64} (ha : (ws ++ wr)[q0]? = some (a, .inl (cA, n, .inr (.inl f)))) (ht : tys[t0]? = some (cA, .long)) {j : Nat} (hj : j < n) (hn : n < 2147483648) (d : decode cc pc = .ok (.laload, 1)) (k : zW p l e R s m args below meth c nL D A Q cells slots ws lv (.long (f j) :: st) (pc + 1)) : zW p l e R s m args below meth c nL D A Q cells slots ws lv (.int (nI j) :: .ref a :: st) pc := z_lald F q0 t0 ha ht (vp_in_nI hj hn) d (by rw [nI_clamp (Nat.lt_trans hj hn)]; exact k)
end ZLJ
theorem nI_sub {a b : Nat} (h : b ≤ a) (ha : a < 2147483648) : nI a - nI b = nI (a - b) := by
  apply Int32.toInt_inj.mp
  rw [Int32.toInt_sub, nI_toInt ha, nI_toInt (by omega), nI_toInt (by omega)]
  rw [Int.bmod_eq_of_le (by omega) (by omega)]
  omega
/-- what the history holds: the last n ledgers, the newest first -/
def zHs (k : zKK) (n : Nat) (P : Nat → zL → Prop) : Prop := ∀ i, i < n → P i (kH k ((kN k + (7 - i)) % 8))
theorem zHs_0 {k : zKK} {P : Nat → zL → Prop} : zHs k 0 P := fun i h => absurd h (Nat.not_lt_zero i)
theorem zHs_keep {k k9 : zKK} {n : Nat} {P P' : Nat → zL → Prop} (h : zHs k n P) (hH : kH k9 = zKeep (kH k) (kN k) (kL k)) (hN9 : kN k9 = (kN k + 1) % 8) (hN : kN k < 8) (h0 : P' 0 (kL k)) (hs : ∀ i L, i < n → P i L → P' (i + 1) L) {n' : Nat} (hn : n' ≤ n + 1) (h8 : n' ≤ 8) : zHs k9 n' P' := by
  intro i hi
  rw [hH, hN9]
  unfold zKeep
  rcases Nat.eq_zero_or_pos i with q | q
  · subst q
    rw [if_pos (by omega)]
    exact h0
  · rw [if_neg (by omega)]
    have h2 := h (i - 1) (by omega)
    have h3 := hs _ _ (by omega) h2
    rw [show i - 1 + 1 = i by omega] at h3
    rw [show ((kN k + 1) % 8 + (7 - i)) % 8 = (kN k + (7 - (i - 1))) % 8 by omega]
    exact h3
theorem zHs_push {k : zKK} {L : zL} {n : Nat} {P P' : Nat → zL → Prop} (h : zHs k n P) (hN : kN k < 8) (h0 : P' 0 (kL k)) (hs : ∀ i L, i < n → P i L → P' (i + 1) L) {n' : Nat} (hn : n' ≤ n + 1) (h8 : n' ≤ 8) : zHs (pushK k L) n' P' := zHs_keep h rfl rfl hN h0 hs hn h8
theorem zHs_done {k : zKK} {L : zL} {n : Nat} {P P' : Nat → zL → Prop} (h : zHs k n P) (hN : kN k < 8) (h0 : P' 0 (kL k)) (hs : ∀ i L, i < n → P i L → P' (i + 1) L) {n' : Nat} (hn : n' ≤ n + 1) (h8 : n' ≤ 8) : zHs (doneK k L) n' P' := zHs_keep h rfl rfl hN h0 hs hn h8
theorem zHs_pop {k : zKK} {n : Nat} {P : Nat → zL → Prop} (h : zHs k (n + 1) P) (hN : kN k < 8) (hn : n + 1 ≤ 8) : P 0 (kL (popK k)) ∧ zHs (popK k) n (fun i => P (i + 1)) := by
  refine ⟨h 0 (by omega), fun i hi => ?_⟩
  have h2 := h (i + 1) (by omega)
  show P (i + 1) (kH k (((kN k + 7) % 8 + (7 - i)) % 8))
  rw [show ((kN k + 7) % 8 + (7 - i)) % 8 = (kN k + (7 - (i + 1))) % 8 by omega]
  exact h2
/-- one undo of many -/
theorem z_undo {k k9 : zKK} {n : Nat} {P : Nat → zL → Prop} {r : Int32} {S : zL} (H : zAns (if kC k = 0 then 3 else 0) (fun f => -1001) (fun r u9 => r = nI (kC k - 1) ∧ u9 = popK k) k r k9) (hC : kC k = n + 1) (hn : n + 1 ≤ 8) (hN : kN k < 8) (hS : kS k = S) (hV : kV k = 1) (hI : kI k = 0) (hH : zHs k (n + 1) P) : r = nI n ∧ kC k9 = n ∧ kN k9 < 8 ∧ kS k9 = S ∧ kV k9 = 1 ∧ kI k9 = 0 ∧ P 0 (kL k9) ∧ zHs k9 n (fun i => P (i + 1)) := by
  obtain ⟨h1, h2⟩ := H.1 (if_neg (by omega))
  have h3 := zHs_pop hH hN hn
  rw [h2]
  rw [hC] at h1
  exact ⟨h1, show kC k - 1 = n by rw [hC]; rfl, show (kN k + 7) % 8 < 8 from Nat.mod_lt _ (by decide), hS, hV, hI, h3.1, h3.2⟩
theorem z_undoN {k k9 : zKK} {r : Int32} (H : zAns (if kC k = 0 then 3 else 0) (fun f => -1001) (fun r u9 => r = nI (kC k - 1) ∧ u9 = popK k) k r k9) (hC : kC k = 0) : r = -1001 ∧ k9 = k := z_ansN H (c := 3) (if_pos hC) (by decide)
/-- the addresses of an object that is made -/
def zAd (q : Nat) (w : Nat → Nat) : Nat → Nat := fun i => if i = 0 then q else w i
def k00 : zKK := (zL0, zL0, fun _ => zL0, 0, 0, 0, -1, -1, 0)
def j00 : zGG := (zL0, 0, 0, 0, fun _ => 0, fun _ => 0, fun _ => 0, fun _ => 0, fun _ => 0, fun _ => 0, fun _ => 0, fun _ => 0, 0, 0, 0, 0, fun _ => 0)
def o00 (b : Nat) : zOO := (b, 16, fun _ => 0, 0, 0)
def eJ : Nat → zL | 0 => lHrc zL0 90 | i + 1 => lJoin (eJ i)
def eD : Nat → zL | 0 => eJ 8 | i + 1 => lDebt (eD i) (nI i) (nI ((i + 1) % 8)) (nI (31 + i))
def e18 : zL := lFal (eD 8) (fun _ => 0) 7
def eK1 : zKK := pushK (saveK k00) (lHrc zL0 90)
def eK2 : zKK := errK eK1 0 (-1)
def eK3 : zKK := errK eK1 1 (-1)
theorem f_dvN_ind (am : Nat → Int32) (d m : Int32) (x : Nat) (rm rm' : Nat → Int32) : ∀ i, (f_dvN am d m x rm i).1 = (f_dvN am d m x rm' i).1 ∧ (f_dvN am d m x rm i).2.2 = (f_dvN am d m x rm' i).2.2
  | 0 => ⟨rfl, rfl⟩
  | i + 1 => by
    obtain ⟨h1, h2⟩ := f_dvN_ind am d m x rm rm' i
    unfold f_dvN
    dsimp only
    rw [h1, h2]
    exact ⟨rfl, rfl⟩
theorem e_div (rm : Nat → Int32) : (lDv (eD 8) rm 7).1 = (lDv (eD 8) (fun _ => 0) 7).1 := by
  have h0 : (f_dvN (lAm (eD 8)) (f_debit (lAm (eD 8)) 7) (f_means (lCo (eD 8)) (lCa (eD 8)) (lHc (eD 8)) 7) 7 (fun _ => 0) 8).2.2.toNatClampNeg = 0 := by decide +kernel
  have h9 : 0 < f_debit (lAm (eD 8)) 7 := by decide +kernel
  have e7 : z_n 7 = 7 := by decide
  have h1 := f_dvN_ind (lAm (eD 8)) (f_debit (lAm (eD 8)) 7) (f_means (lCo (eD 8)) (lCa (eD 8)) (lHc (eD 8)) 7) 7 rm (fun _ => 0) 8
  unfold lDv f_div
  rw [e7, if_pos h9, if_pos h9, h1.2, h0]
  exact h1.1
theorem e_fal (rm : Nat → Int32) : lFal (eD 8) rm 7 = e18 := by
  unfold e18 lFal
  rw [e_div]
theorem e_jn : ∀ i, i < 8 → f_onJoin (lMc (eJ i)) = 0 ∧ lMc (eJ i) = i := by decide +kernel
theorem e_j8 : f_onJoin (lMc (eJ 8)) = 3 ∧ lMc (eJ 8) = 8 := by decide +kernel
theorem e_db : ∀ i, i < 8 → (f_onDebt (lMc (eD i)) (lAm (eD i)) (lLi (eD i)) (zBo (lBo (eD i))) (nI i) (nI ((i + 1) % 8)) (nI (31 + i)) = 0 ∧ lAm (eD i) (8 * z_n (nI i) + z_n (nI ((i + 1) % 8))) + nI (31 + i) = nI (31 + i)) ∧ lMc (eD i) = 8 := by decide +kernel
theorem e_rc : f_onMember (lMc (eD 8)) 0 = 0 ∧ f_bc (f_follow (f_mat (lAm (eD 8))) (z_n 0)) - 1 = 7 := by decide +kernel
theorem e_m8 : lMc (eD 8) = 8 := by decide +kernel
theorem e_tr : f_tri (f_mat (lAm (eD 8))) = 0 := by decide +kernel
theorem e_fl : f_onDf (lMc (eD 8)) (lAm (eD 8)) (lCo (eD 8)) (lCa (eD 8)) (zBo (lBo (eD 8))) (lHc (eD 8)) 7 = 0 ∧ f_loss (lAm (eD 8)) (lCo (eD 8)) (lCa (eD 8)) (lHc (eD 8)) (z_n 7) = 8 := by decide +kernel
theorem e_18 : lMc e18 = 8 ∧ zIf (f_onMember (lMc e18) 0) (lCo e18 (z_n 0)) (fun f => -1001) = 60 ∧ nI (f_cl (lAm e18) (lAc e18)).2.2 = 7 := by decide +kernel
theorem e_19 : lMc (lClr e18) = 8 ∧ zIf (f_onPair (lMc (lClr e18)) 0 7) (lAm (lClr e18) (8 * z_n 0 + z_n 7)) (fun f => if f = 1 then -1001 else -1002) = 31 ∧ zIf (f_onPair (lMc (lClr e18)) 1 7) (lAm (lClr e18) (8 * z_n 1 + z_n 7)) (fun f => if f = 1 then -1001 else -1002) = 1 := by decide +kernel
theorem e_u1 : zIf (f_onPair (lMc e18) 6 7) (lAm e18 (8 * z_n 6 + z_n 7)) (fun f => if f = 1 then -1001 else -1002) = 37 := by decide +kernel
theorem e_u2 : zIf (f_onMember (lMc (eD 8)) 0) (lCo (eD 8) (z_n 0)) (fun f => -1001) = 30 ∧ zIf (f_onMember (lMc (eD 8)) 7) (if zBo (lBo (eD 8)) (z_n 7) = 0 then 0 else 1) (fun f => -1001) = 0 := by decide +kernel
theorem e_u3 : lMc (eD 7) = 8 ∧ zIf (f_onPair (lMc (eD 7)) 7 0) (lAm (eD 7) (8 * z_n 7 + z_n 0)) (fun f => if f = 1 then -1001 else -1002) = 0 := by decide +kernel
theorem e_u8 : f_cnt (lAm (eD 2)) = 2 ∧ lMc (eD 2) = 8 := by decide +kernel
/-- the two texts of the beginning -/
def t_alf : Nat → Int32 := fun t => nI (65 + t)
theorem t_alf0 : (f_fe (zMk t_alf 60) 60 0 z30).1 = 0 := by decide +kernel
theorem t_m1 : (f_fe (zMk (fun _ => 109) 1) 1 0 z30).1 = 1 := by decide +kernel
theorem t_fed : ∀ i, i < 60 → ((65 + nI i).toUInt32 % 65536).toInt32 = nI (65 + i) ∧ vp_nar .char (nI (65 + i)) = t_alf i := by decide +kernel
theorem t_rE {k k9 : zKK} {x c : Nat → Int32} {n : Nat} {v : Int32} {j j9 : zGG} {r : Int32} (hx : ∀ t, t < n → x t = c t) (hI : kI k = n) (hv : (f_fe (zMk c n) n 0 z30).1 = v) (hne : ¬ v = -1) (h : f_runP k x j r k9 j9) : r = -1001 ∧ k9 = errK k v (kF k) ∧ jnc j9 ≤ 3 := by
  have e1 : (f_fe (zMk x (kI k)) (kI k) (jen j) (jre j, jnc j, jnu j)).1 = v := by
    rw [hI, z_mkE (c := c) hx]
    exact (f_fe_ind _ _ _ _ _ _).1.trans hv
  obtain ⟨h0, h⟩ := h
  rw [e1] at h
  rcases h with ⟨cn, L9, -, h1, -⟩ | ⟨h1, -, h3⟩ | ⟨-, h1, -⟩
  · exact absurd h1 hne
  · exact ⟨h1, h3, h0⟩
  · exact absurd h1 hne
def eU (t : Nat) : zL := if t = 0 then e18 else eD (9 - t)
theorem eU_s (t : Nat) : eU (t + 1) = eD (8 - t) := by
  unfold eU
  rw [if_neg (Nat.succ_ne_zero t)]
  exact congrArg eD (by omega)
theorem e_hist {k2 : zKK} (hH : zHs k2 8 (fun t L => L = eD (8 - 1 - t))) (hN : kN k2 < 8) (hL : kL k2 = eD 8) : zHs (pushK (pushK k2 e18) (lClr (kL (pushK k2 e18)))) 8 (fun t L => L = eU t) := zHs_push (P := fun t L => L = eD (8 - t)) (zHs_push hH hN hL (fun t L _ h => h.trans (congrArg eD (by omega))) (by decide : 8 ≤ 8 + 1) (Nat.le_refl 8)) (Nat.mod_lt _ (by decide)) rfl (fun t L _ h => h.trans (eU_s t).symm) (by decide) (Nat.le_refl 8)
theorem z_hsD {k1 : zKK} {L9 : zL} {d : Nat} {wz : Nat → Int64} {r : Int64} (hH : zHs k1 d (fun t L => zIv L ∧ f_asks L = wz (d - 1 - t))) (hN : kN k1 < 8) (hZ : zIv (kL k1)) (hq : r = f_asks (kL k1)) (hd : d < 8) : zHs (doneK k1 L9) (d + 1) (fun t L => zIv L ∧ f_asks L = vp_updL wz d r (d + 1 - 1 - t)) := zHs_done (P' := fun t L => zIv L ∧ f_asks L = vp_updL wz d r (d + 1 - 1 - t)) hH hN ⟨hZ, by
  unfold vp_updL
  rw [if_pos (by omega)]
  exact hq.symm⟩ (fun t L ht h => ⟨h.1, by
  unfold vp_updL
  rw [if_neg (by omega), h.2]
  exact congrArg wz (by omega)⟩) (Nat.le_refl _) (by omega)
theorem z_hsU {k : zKK} {n n' d i : Nat} {wz : Nat → Int64} (h : zHs k n (fun t => (fun t L => zIv L ∧ f_asks L = wz (d - i - t)) (t + 1))) (hn : n' = n) : zHs k n' (fun t L => zIv L ∧ f_asks L = wz (d - (i + 1) - t)) := by
  subst hn
  intro t ht
  obtain ⟨h1, h2⟩ := h t ht
  exact ⟨h1, h2.trans (congrArg wz (by omega))⟩
