/-! NO NaN IN THE TWO QUOTIENTS -/
def zFN : FP.Core.Datum → Bool
  | .fin _ c _ => decide (c ≠ 0)
  | _ => false
theorem z_rAt (f : FP.Core.Fmt) (s : Bool) (a b : Nat) (e q : Int) : FP.Core.roundAt f s a b e q ≠ .nan := by
  have hb : ∀ c q, FP.Core.bound f s c q ≠ .nan := fun c q => by
    unfold FP.Core.bound
    by_cases h9 : q ≤ FP.Core.Fmt.qmax f
    · rw [if_pos h9]; intro h; cases h
    · rw [if_neg h9]; intro h; cases h
  unfold FP.Core.roundAt FP.Core.settle
  by_cases h9 : FP.Core.nearest (FP.Core.unitsNum a e q) (FP.Core.unitsDen b e q) < 2 ^ f.p
  · rw [if_pos h9]; exact hb _ _
  · rw [if_neg h9]; exact hb _ _
theorem z_rRt (f : FP.Core.Fmt) (s : Bool) (a b : Nat) (e : Int) : FP.Core.roundRatio f s a b e ≠ .nan := by
  unfold FP.Core.roundRatio
  split
  · intro h; cases h
  · exact z_rAt _ _ _ _ _ _
theorem z_rdI (f : FP.Core.Fmt) (i : Int) : FP.Core.round f (FP.Core.ofInt i) ≠ .nan := z_rRt _ _ _ _ _
theorem z_quo (f : FP.Core.Fmt) {x y : FP.Core.Datum} (hx : x ≠ .nan) (hy : zFN y = true) : FP.Core.quotient f x y ≠ .nan := by
  cases y with
  | nan => cases hy
  | inf s => cases hy
  | fin t d r =>
    have hd : d ≠ 0 := of_decide_eq_true hy
    cases x with
    | nan => exact absurd rfl hx
    | inf s => intro h; cases h
    | fin s c q =>
      show (if d = 0 then (if c = 0 then FP.Core.Datum.nan else .inf (s != t)) else FP.Core.roundRatio f (s != t) c d (q - r)) ≠ .nan
      rw [if_neg hd]
      exact z_rRt _ _ _ _ _
theorem z_n64 {r : UInt64} (h : FP.Core.val64 r ≠ .nan) : vf_n64 r := by
  have h1 : ¬ FP.Core.infBits FP.Core.b64 < FP.Core.mag FP.Core.b64 r.toNat := fun q => h ((FP.Core.decode_nan r.toNat).mpr q)
  unfold vf_n64
  rw [UInt64.le_iff_toNat_le, UInt64.toNat_and]
  have e : r.toNat &&& (0x7fffffffffffffff : UInt64).toNat = r.toNat % 2 ^ 63 := Nat.and_two_pow_sub_one_eq_mod r.toNat 63
  rw [e]
  have h2 : FP.Core.mag FP.Core.b64 r.toNat = r.toNat % 2 ^ 63 := rfl
  have h3 : FP.Core.infBits FP.Core.b64 = (0x7ff0000000000000 : UInt64).toNat := by decide +kernel
  omega
theorem z_n32 {r : UInt32} (h : FP.Core.val32 r ≠ .nan) : vf_n32 r := by
  have h1 : ¬ FP.Core.infBits FP.Core.b32 < FP.Core.mag FP.Core.b32 r.toNat := fun q => h ((FP.Core.decode_nan r.toNat).mpr q)
  unfold vf_n32
  rw [UInt32.le_iff_toNat_le, UInt32.toNat_and]
  have e : r.toNat &&& (0x7fffffff : UInt32).toNat = r.toNat % 2 ^ 31 := Nat.and_two_pow_sub_one_eq_mod r.toNat 31
  rw [e]
  have h2 : FP.Core.mag FP.Core.b32 r.toNat = r.toNat % 2 ^ 31 := rfl
  have h3 : FP.Core.infBits FP.Core.b32 = (0x7f800000 : UInt32).toNat := by decide +kernel
  omega
theorem z_mean (v : Int32) {n : Nat} (h1 : 1 ≤ n) (h8 : n ≤ 8) : vf_n64 (FP.ddiv (FP.i2d v) (FP.i2d (nI n))) := by
  apply z_n64
  show FP.Core.val64 (FP.Core.ddiv (FP.Core.i2d v) (FP.Core.i2d (nI n))) ≠ .nan
  rw [FP.Core.val64_ddiv, FP.Core.val64_i2d v]
  refine z_quo _ (z_rdI _ _) ?_
  have : ∀ n, n ≤ 8 → 1 ≤ n → zFN (FP.Core.val64 (FP.Core.i2d (nI n))) = true := by decide +kernel
  exact this n h8 h1
theorem z_share (v : Int32) {n : Nat} (h1 : 2 ≤ n) (h8 : n ≤ 8) : vf_n32 (FP.fdiv (FP.i2f v) (FP.i2f (nI n * (nI n - 1)))) := by
  apply z_n32
  show FP.Core.val32 (FP.Core.fdiv (FP.Core.i2f v) (FP.Core.i2f (nI n * (nI n - 1)))) ≠ .nan
  rw [FP.Core.val32_fdiv, FP.Core.val32_i2f v]
  refine z_quo _ (z_rdI _ _) ?_
  have : ∀ n, n ≤ 8 → 2 ≤ n → zFN (FP.Core.val32 (FP.Core.i2f (nI n * (nI n - 1)))) = true := by decide +kernel
  exact this n h8 h1
theorem law_Fl : zFl := ⟨fun v n h1 h8 => z_mean v h1 h8, fun v n h1 h8 => z_share v h1 h8⟩
