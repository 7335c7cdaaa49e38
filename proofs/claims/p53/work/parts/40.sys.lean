/-! THE WHOLE OF AN OBJECT -/
abbrev zKK : Type := zL × zL × (Nat → zL) × Nat × Nat × Int32 × Int32 × Int32 × Nat
abbrev zOO : Type := Nat × Nat × (Nat → Int8) × Int32 × Nat
abbrev zGG : Type := zL × Int32 × Int32 × Int32 × (Nat → Int32) × (Nat → Int32) × (Nat → Int32) × (Nat → Int32) × (Nat → Int32) × (Nat → Int32) × (Nat → Int32) × (Nat → Int32) × Nat × Int32 × Nat × Nat × (Nat → Int32)
abbrev kL (k : zKK) : zL := k.1
abbrev kS (k : zKK) : zL := k.2.1
abbrev kH (k : zKK) : Nat → zL := k.2.2.1
abbrev kN (k : zKK) : Nat := k.2.2.2.1
abbrev kC (k : zKK) : Nat := k.2.2.2.2.1
abbrev kV (k : zKK) : Int32 := k.2.2.2.2.2.1
abbrev kE (k : zKK) : Int32 := k.2.2.2.2.2.2.1
abbrev kF (k : zKK) : Int32 := k.2.2.2.2.2.2.2.1
abbrev kI (k : zKK) : Nat := k.2.2.2.2.2.2.2.2
abbrev oB (o : zOO) : Nat := o.1
abbrev oC (o : zOO) : Nat := o.2.1
abbrev oP (o : zOO) : Nat → Int8 := o.2.2.1
abbrev oM (o : zOO) : Int32 := o.2.2.2.1
abbrev oN (o : zOO) : Nat := o.2.2.2.2
abbrev jB (j : zGG) : zL := j.1
abbrev jv1 (j : zGG) : Int32 := j.2.1
abbrev jv2 (j : zGG) : Int32 := j.2.2.1
abbrev jv3 (j : zGG) : Int32 := j.2.2.2.1
abbrev jop (j : zGG) : Nat → Int32 := j.2.2.2.2.1
abbrev jsh (j : zGG) : Nat → Int32 := j.2.2.2.2.2.1
abbrev jrm (j : zGG) : Nat → Int32 := j.2.2.2.2.2.2.1
abbrev jmt (j : zGG) : Nat → Int32 := j.2.2.2.2.2.2.2.1
abbrev jsq (j : zGG) : Nat → Int32 := j.2.2.2.2.2.2.2.2.1
abbrev jcu (j : zGG) : Nat → Int32 := j.2.2.2.2.2.2.2.2.2.1
abbrev jqu (j : zGG) : Nat → Int32 := j.2.2.2.2.2.2.2.2.2.2.1
abbrev jse (j : zGG) : Nat → Int32 := j.2.2.2.2.2.2.2.2.2.2.2.1
abbrev jnc (j : zGG) : Nat := j.2.2.2.2.2.2.2.2.2.2.2.2.1
abbrev jcc (j : zGG) : Int32 := j.2.2.2.2.2.2.2.2.2.2.2.2.2.1
abbrev jre (j : zGG) : Nat := j.2.2.2.2.2.2.2.2.2.2.2.2.2.2.1
abbrev jen (j : zGG) : Nat := j.2.2.2.2.2.2.2.2.2.2.2.2.2.2.2.1
abbrev jnu (j : zGG) : Nat → Int32 := j.2.2.2.2.2.2.2.2.2.2.2.2.2.2.2.2
def sysD (g : Nat → ClassId) (a : Nat → Nat) (k : zKK) (x : Nat → Int32) (o : zOO) (j : zGG) : va_W := [(a 0, .inr (10, [.ref (a 1), .ref (a 8), .ref (a 15), .ref (a 22), .ref (a 24), .ref (a 27), .ref (a 33), .ref (a 91), .ref (a 94), .int (kV k), .int (kE k), .int (kF k)])), (a 1, .inr (7, [.ref (a 2), .ref (a 3), .ref (a 4), .ref (a 5), .ref (a 6), .ref (a 7), .int (nI (lMc (kL k))), .int (lHc (kL k)), .int (lNe (kL k)), .int (lLo (kL k))])), (a 2, .inl (g 0, 64, .inl (lAm (kL k)))), (a 3, .inl (g 0, 8, .inl (lCo (kL k)))), (a 4, .inl (g 0, 8, .inl (lCa (kL k)))), (a 5, .inl (g 0, 8, .inl (lLi (kL k)))), (a 6, .inl (g 0, 8, .inl (lAc (kL k)))), (a 7, .inl (g 1, 8, .inl ((zBo (lBo (kL k)))))), (a 8, .inr (7, [.ref (a 9), .ref (a 10), .ref (a 11), .ref (a 12), .ref (a 13), .ref (a 14), .int (nI (lMc (jB j))), .int (lHc (jB j)), .int (lNe (jB j)), .int (lLo (jB j))])), (a 9, .inl (g 0, 64, .inl (lAm (jB j)))), (a 10, .inl (g 0, 8, .inl (lCo (jB j)))), (a 11, .inl (g 0, 8, .inl (lCa (jB j)))), (a 12, .inl (g 0, 8, .inl (lLi (jB j)))), (a 13, .inl (g 0, 8, .inl (lAc (jB j)))), (a 14, .inl (g 1, 8, .inl ((zBo (lBo (jB j)))))), (a 15, .inr (7, [.ref (a 16), .ref (a 17), .ref (a 18), .ref (a 19), .ref (a 20), .ref (a 21), .int (nI (lMc (kS k))), .int (lHc (kS k)), .int (lNe (kS k)), .int (lLo (kS k))])), (a 16, .inl (g 0, 64, .inl (lAm (kS k)))), (a 17, .inl (g 0, 8, .inl (lCo (kS k)))), (a 18, .inl (g 0, 8, .inl (lCa (kS k)))), (a 19, .inl (g 0, 8, .inl (lLi (kS k)))), (a 20, .inl (g 0, 8, .inl (lAc (kS k)))), (a 21, .inl (g 1, 8, .inl ((zBo (lBo (kS k)))))), (a 22, .inr (4, [.ref (a 23), .int (jv1 j), .int (jv2 j), .int (jv3 j)])), (a 23, .inl (g 0, 8, .inl (jop j))), (a 24, .inr (9, [.ref (a 25), .ref (a 26)])), (a 25, .inl (g 0, 8, .inl (jsh j))), (a 26, .inl (g 0, 8, .inl (jrm j))), (a 27, .inr (8, [.ref (a 28), .ref (a 29), .ref (a 30), .ref (a 31), .ref (a 32)])), (a 28, .inl (g 0, 64, .inl (jmt j))), (a 29, .inl (g 0, 64, .inl (jsq j))), (a 30, .inl (g 0, 64, .inl (jcu j))), (a 31, .inl (g 0, 8, .inl (jqu j))), (a 32, .inl (g 0, 8, .inl (jse j))), (a 33, .inr (6, [.ref (a 34), .int (nI (kN k)), .int (nI (kC k))])), (a 34, .inl (g 4, 8, .inr (.inr (.inr (.inr ((fun k => some (a (35 + 7 * k))))))))), (a 35, .inr (7, [.ref (a 36), .ref (a 37), .ref (a 38), .ref (a 39), .ref (a 40), .ref (a 41), .int (nI (lMc ((kH k) 0))), .int (lHc ((kH k) 0)), .int (lNe ((kH k) 0)), .int (lLo ((kH k) 0))])), (a 36, .inl (g 0, 64, .inl (lAm ((kH k) 0)))), (a 37, .inl (g 0, 8, .inl (lCo ((kH k) 0)))), (a 38, .inl (g 0, 8, .inl (lCa ((kH k) 0)))), (a 39, .inl (g 0, 8, .inl (lLi ((kH k) 0)))), (a 40, .inl (g 0, 8, .inl (lAc ((kH k) 0)))), (a 41, .inl (g 1, 8, .inl ((zBo (lBo ((kH k) 0)))))), (a 42, .inr (7, [.ref (a 43), .ref (a 44), .ref (a 45), .ref (a 46), .ref (a 47), .ref (a 48), .int (nI (lMc ((kH k) 1))), .int (lHc ((kH k) 1)), .int (lNe ((kH k) 1)), .int (lLo ((kH k) 1))])), (a 43, .inl (g 0, 64, .inl (lAm ((kH k) 1)))), (a 44, .inl (g 0, 8, .inl (lCo ((kH k) 1)))), (a 45, .inl (g 0, 8, .inl (lCa ((kH k) 1)))), (a 46, .inl (g 0, 8, .inl (lLi ((kH k) 1)))), (a 47, .inl (g 0, 8, .inl (lAc ((kH k) 1)))), (a 48, .inl (g 1, 8, .inl ((zBo (lBo ((kH k) 1)))))), (a 49, .inr (7, [.ref (a 50), .ref (a 51), .ref (a 52), .ref (a 53), .ref (a 54), .ref (a 55), .int (nI (lMc ((kH k) 2))), .int (lHc ((kH k) 2)), .int (lNe ((kH k) 2)), .int (lLo ((kH k) 2))])), (a 50, .inl (g 0, 64, .inl (lAm ((kH k) 2)))), (a 51, .inl (g 0, 8, .inl (lCo ((kH k) 2)))), (a 52, .inl (g 0, 8, .inl (lCa ((kH k) 2)))), (a 53, .inl (g 0, 8, .inl (lLi ((kH k) 2)))), (a 54, .inl (g 0, 8, .inl (lAc ((kH k) 2)))), (a 55, .inl (g 1, 8, .inl ((zBo (lBo ((kH k) 2)))))), (a 56, .inr (7, [.ref (a 57), .ref (a 58), .ref (a 59), .ref (a 60), .ref (a 61), .ref (a 62), .int (nI (lMc ((kH k) 3))), .int (lHc ((kH k) 3)), .int (lNe ((kH k) 3)), .int (lLo ((kH k) 3))])), (a 57, .inl (g 0, 64, .inl (lAm ((kH k) 3)))), (a 58, .inl (g 0, 8, .inl (lCo ((kH k) 3)))), (a 59, .inl (g 0, 8, .inl (lCa ((kH k) 3)))), (a 60, .inl (g 0, 8, .inl (lLi ((kH k) 3)))), (a 61, .inl (g 0, 8, .inl (lAc ((kH k) 3)))), (a 62, .inl (g 1, 8, .inl ((zBo (lBo ((kH k) 3)))))), (a 63, .inr (7, [.ref (a 64), .ref (a 65), .ref (a 66), .ref (a 67), .ref (a 68), .ref (a 69), .int (nI (lMc ((kH k) 4))), .int (lHc ((kH k) 4)), .int (lNe ((kH k) 4)), .int (lLo ((kH k) 4))])), (a 64, .inl (g 0, 64, .inl (lAm ((kH k) 4)))), (a 65, .inl (g 0, 8, .inl (lCo ((kH k) 4)))), (a 66, .inl (g 0, 8, .inl (lCa ((kH k) 4)))), (a 67, .inl (g 0, 8, .inl (lLi ((kH k) 4)))), (a 68, .inl (g 0, 8, .inl (lAc ((kH k) 4)))), (a 69, .inl (g 1, 8, .inl ((zBo (lBo ((kH k) 4)))))), (a 70, .inr (7, [.ref (a 71), .ref (a 72), .ref (a 73), .ref (a 74), .ref (a 75), .ref (a 76), .int (nI (lMc ((kH k) 5))), .int (lHc ((kH k) 5)), .int (lNe ((kH k) 5)), .int (lLo ((kH k) 5))])), (a 71, .inl (g 0, 64, .inl (lAm ((kH k) 5)))), (a 72, .inl (g 0, 8, .inl (lCo ((kH k) 5)))), (a 73, .inl (g 0, 8, .inl (lCa ((kH k) 5)))), (a 74, .inl (g 0, 8, .inl (lLi ((kH k) 5)))), (a 75, .inl (g 0, 8, .inl (lAc ((kH k) 5)))), (a 76, .inl (g 1, 8, .inl ((zBo (lBo ((kH k) 5)))))), (a 77, .inr (7, [.ref (a 78), .ref (a 79), .ref (a 80), .ref (a 81), .ref (a 82), .ref (a 83), .int (nI (lMc ((kH k) 6))), .int (lHc ((kH k) 6)), .int (lNe ((kH k) 6)), .int (lLo ((kH k) 6))])), (a 78, .inl (g 0, 64, .inl (lAm ((kH k) 6)))), (a 79, .inl (g 0, 8, .inl (lCo ((kH k) 6)))), (a 80, .inl (g 0, 8, .inl (lCa ((kH k) 6)))), (a 81, .inl (g 0, 8, .inl (lLi ((kH k) 6)))), (a 82, .inl (g 0, 8, .inl (lAc ((kH k) 6)))), (a 83, .inl (g 1, 8, .inl ((zBo (lBo ((kH k) 6)))))), (a 84, .inr (7, [.ref (a 85), .ref (a 86), .ref (a 87), .ref (a 88), .ref (a 89), .ref (a 90), .int (nI (lMc ((kH k) 7))), .int (lHc ((kH k) 7)), .int (lNe ((kH k) 7)), .int (lLo ((kH k) 7))])), (a 85, .inl (g 0, 64, .inl (lAm ((kH k) 7)))), (a 86, .inl (g 0, 8, .inl (lCo ((kH k) 7)))), (a 87, .inl (g 0, 8, .inl (lCa ((kH k) 7)))), (a 88, .inl (g 0, 8, .inl (lLi ((kH k) 7)))), (a 89, .inl (g 0, 8, .inl (lAc ((kH k) 7)))), (a 90, .inl (g 1, 8, .inl ((zBo (lBo ((kH k) 7)))))), (a 91, .inr (5, [.ref (a 92), .ref (a 93), .int (nI (kI k)), .int (nI (jnc j)), .int (jcc j), .int (nI (jre j)), .int (nI (jen j))])), (a 92, .inl (g 2, 60, .inl x)), (a 93, .inl (g 0, 3, .inl (jnu j))), (a 94, .inr (1, [.ref (oB o), .int 0, .int (oM o), .int (nI (oN o))])), (oB o, .inl (g 3, (oC o), .inl ((zBy (oP o)))))]
theorem sysD_len (g : Nat → ClassId) (a : Nat → Nat) (k : zKK) (x : Nat → Int32) (o : zOO) (j : zGG) : (sysD g a k x o j).length = 96 := rfl
/-- the two quotients are no NaN: shown where the library's float laws are at hand -/
def zFl : Prop := (∀ (v : Int32) (n : Nat), 1 ≤ n → n ≤ 8 → vf_n64 (FP.ddiv (FP.i2d v) (FP.i2d (nI n)))) ∧ ∀ (v : Int32) (n : Nat), 2 ≤ n → n ≤ 8 → vf_n32 (FP.fdiv (FP.i2f v) (FP.i2f (nI n * (nI n - 1))))
def zIf (f : Nat) (v : Int32) (h : Nat → Int32) : Int32 := if f = 0 then v else h f
theorem zIf0 {f : Nat} {v : Int32} {h : Nat → Int32} (q : f = 0) : v = zIf f v h := (if_pos q).symm
theorem zIf1 {f : Nat} {v : Int32} {h : Nat → Int32} (q : ¬ f = 0) : h f = zIf f v h := (if_neg q).symm
theorem zc_lp (am : Nat → Int32) : (if f_place am = -1 then 5 else 0) = 0 ∨ (if f_place am = -1 then 5 else 0) = 5 := by
  by_cases h : f_place am = -1
  · exact Or.inr (if_pos h)
  · exact Or.inl (if_neg h)
/-- an answer: the value and what has become of the object, or the handler's number and nothing changed -/
def zAns {S : Type} (f : Nat) (h : Nat → Int32) (good : Int32 → S → Prop) (same : S) (r : Int32) (u : S) : Prop := (f = 0 → good r u) ∧ (¬ f = 0 → r = h f ∧ u = same)
def lJoin (L : zL) : zL := (lAm L, upd (lCo L) (lMc L) 30, lCa L, upd (lLi L) (lMc L) 99, lAc L, lBo L, lMc L + 1, lHc L, lNe L, lLo L)
def lDebt (L : zL) (v w u : Int32) : zL := (f_chA (lAm L) (z_n v) (z_n w) u, lCo L, lCa L, lLi L, f_chC (lAc L) (z_n v) (z_n w) u, lBo L, lMc L, lHc L, lNe L, lLo L)
def lPay (L : zL) (v w u : Int32) : zL := (f_chA (lAm L) (z_n v) (z_n w) (-u), f_pyC (lCo L) (z_n v) (z_n w) u, lCa L, lLi L, f_chC (lAc L) (z_n v) (z_n w) (-u), lBo L, lMc L, lHc L, lNe L, lLo L)
def lN2 (L : zL) (v w : Int32) : zL := (f_chA (f_chA (lAm L) (z_n v) (z_n w) (-(f_n2 (lAm L) (z_n v) (z_n w)))) (z_n w) (z_n v) (-(f_n2 (lAm L) (z_n v) (z_n w))), lCo L, lCa L, lLi L, f_chC (f_chC (lAc L) (z_n v) (z_n w) (-(f_n2 (lAm L) (z_n v) (z_n w)))) (z_n w) (z_n v) (-(f_n2 (lAm L) (z_n v) (z_n w))), lBo L, lMc L, lHc L, lNe L + 2 * f_n2 (lAm L) (z_n v) (z_n w), lLo L)
def lN3 (L : zL) (v w u : Int32) : zL := (f_chA (f_chA (f_chA (lAm L) (z_n v) (z_n w) (-(f_n3 (lAm L) (z_n v) (z_n w) (z_n u)))) (z_n w) (z_n u) (-(f_n3 (lAm L) (z_n v) (z_n w) (z_n u)))) (z_n u) (z_n v) (-(f_n3 (lAm L) (z_n v) (z_n w) (z_n u))), lCo L, lCa L, lLi L, f_chC (f_chC (f_chC (lAc L) (z_n v) (z_n w) (-(f_n3 (lAm L) (z_n v) (z_n w) (z_n u)))) (z_n w) (z_n u) (-(f_n3 (lAm L) (z_n v) (z_n w) (z_n u)))) (z_n u) (z_n v) (-(f_n3 (lAm L) (z_n v) (z_n w) (z_n u))), lBo L, lMc L, lHc L, lNe L + 3 * f_n3 (lAm L) (z_n v) (z_n w) (z_n u), lLo L)
def lClr (L : zL) : zL := ((f_cl (lAm L) (lAc L)).1, lCo L, lCa L, lLi L, (f_cl (lAm L) (lAc L)).2.1, lBo L, lMc L, lHc L, lNe L, lLo L)
def lPlg (L : zL) (v u : Int32) : zL := (lAm L, lCo L, upd (lCa L) (z_n v) (lCa L (z_n v) + u), lLi L, lAc L, lBo L, lMc L, lHc L, lNe L, lLo L)
def lLim (L : zL) (v u : Int32) : zL := (lAm L, lCo L, lCa L, upd (lLi L) (z_n v) u, lAc L, lBo L, lMc L, lHc L, lNe L, lLo L)
def lHrc (L : zL) (u : Int32) : zL := (lAm L, lCo L, lCa L, lLi L, lAc L, lBo L, lMc L, u, lNe L, lLo L)
def lDv (L : zL) (rm : Nat → Int32) (v : Int32) : (Nat → Int32) × (Nat → Int32) := f_div (lAm L) (lCo L) (lCa L) (lHc L) (z_n v) rm
def lFal (L : zL) (rm : Nat → Int32) (v : Int32) : zL := ((f_fgN (lAm L) (lAc L) (z_n v) 8).1, upd (f_stN (lCo L) (lDv L rm v).1 8) (z_n v) 0, upd (lCa L) (z_n v) 0, lLi L, (f_fgN (lAm L) (lAc L) (z_n v) 8).2, zUb (lBo L) (z_n v), lMc L, lHc L, lNe L, lLo L + f_loss (lAm L) (lCo L) (lCa L) (lHc L) (z_n v))
/-- a change that is recorded -/
def pushK (k : zKK) (L : zL) : zKK := (L, kS k, zKeep (kH k) (kN k) (kL k), (kN k + 1) % 8, min (kC k + 1) 8, kV k, kE k, kF k, kI k)
def popK (k : zKK) : zKK := (kH k ((kN k + 7) % 8), kS k, kH k, (kN k + 7) % 8, kC k - 1, kV k, kE k, kF k, kI k)
def saveK (k : zKK) : zKK := (kL k, kL k, kH k, kN k, kC k, 1, kE k, kF k, kI k)
def backK (k : zKK) : zKK := (kS k, kS k, kH k, kN k, 0, kV k, kE k, kF k, kI k)
def feedK (k : zKK) : zKK := (kL k, kS k, kH k, kN k, kC k, kV k, kE k, kF k, kI k + 1)
def errK (k : zKK) (ep fc : Int32) : zKK := (kL k, kS k, kH k, kN k, kC k, kV k, ep, fc, 0)
def doneK (k : zKK) (L : zL) : zKK := (L, kS k, zKeep (kH k) (kN k) (kL k), (kN k + 1) % 8, min (kC k + 1) 8, kV k, kE k, kF k, 0)
def jFal (j : zGG) (q : (Nat → Int32) × (Nat → Int32)) : zGG := (jB j, jv1 j, jv2 j, jv3 j, jop j, q.1, q.2, jmt j, jsq j, jcu j, jqu j, jse j, jnc j, jcc j, jre j, jen j, jnu j)
def okK (k : zKK) : Prop := lMc (kL k) ≤ 8 ∧ kN k < 8 ∧ kC k < 9 ∧ kI k ≤ 60
def okO (o : zOO) : Prop := oN o ≤ oC o ∧ oC o ≤ 300
/-- words of the law's tables that its own lists don't hold -/
def zWdL : List Cond := [.classLink RL 13 "java/lang/IllegalStateException", .classLink RL 19 "java/lang/IndexOutOfBoundsException", .classLink RL 21 "java/lang/IllegalArgumentException", .classLink RL 23 "java/lang/UnsupportedOperationException", .classLink RL 82 "java/util/NoSuchElementException", .classLink RL 110 "java/lang/ArithmeticException"]
def zWd (U : State) : Prop := ∀ w ∈ zWdL, va_Nw w U
theorem zWd.warm {s U : State} (hW : s.WarmedH U.vm) (h : zWd s) : zWd U := fun w hw => word_at hW (Or.inl (List.all_eq_true.mp (by decide +kernel : zWdL.all (fun w => w.onTables && w.keeps) = true) w hw)) (h w hw)
theorem zWd.at {U : State} {args : Array Value} (h : zWd U) (i : Nat) {w : Cond} (hi : zWdL[i]? = some w) (hw : w.onTables = true) : w.before args U = true := va_Nw.use hw (h w (List.mem_of_getElem? hi))
def zStT : List (Nat × String) := [(254, "pledge 0 1;net "), (263, " "), (269, "debt 1 0 1;fail "), (309, "q"), (313, "clear;net 0 1;net 0 0"), (317, "net 9 1")]
def zStL (fs : Nat → Nat) (U : State) : Prop := ∀ (i : Nat) (q : Nat × String), zStT[i]? = some q → vk_R "DebtClearingLaw" q.1 q.2 (fs (8 + i)) U
def zX (sb sn : Nat) (xs : Nat → Int32) : zE := fun A U H => va_X sb sn xs U H ∧ sb < H.size ∧ ¬ A sb ∧ sn ≤ 260
theorem zX_ok (sb sn : Nat) (xs : Nat → Int32) : zOK (zX sb sn xs) := ⟨fun _ _ _ _ h k => ⟨va_X.moved h.alike k.1, k.2⟩, fun A U H H1 h k => ⟨by
    obtain ⟨c, h1, h2⟩ := k.1
    exact ⟨c, (h sb k.2.1 k.2.2.1).trans h1, h2⟩, by
    obtain ⟨c, h1, h2⟩ := k.1
    exact (Array.getElem?_eq_some_iff.mp ((h sb k.2.1 k.2.2.1).trans h1)).1, k.2.2⟩, fun _ _ _ _ h k => ⟨k.1, k.2.1, fun q => k.2.2.1 (h _ q), k.2.2.2⟩⟩
def zEnvL (er : Nat → Nat) (D : va_G) (g : Nat → ClassId) (dg ec fs fv : Nat → Nat) (qa sw sb sn : Nat) (xs : Nat → Int32) : zE := fun A U H => zEnv4 er D g dg ec fs fv qa sw A U H ∧ (zWd U ∧ zStL fs U) ∧ zX sb sn xs A U H
theorem zEnvL_ok (er : Nat → Nat) (D : va_G) (g : Nat → ClassId) (dg ec fs fv : Nat → Nat) (qa sw sb sn : Nat) (xs : Nat → Int32) : zOK (zEnvL er D g dg ec fs fv qa sw sb sn xs) := ⟨fun _ _ _ _ h k => ⟨(zEnv4_ok er D g dg ec fs fv qa sw).1 _ _ _ _ h k.1, ⟨k.2.1.1.warm h, fun i q hq => (k.2.1.2 i q hq).warm h⟩, (zX_ok sb sn xs).1 _ _ _ _ h k.2.2⟩, fun _ _ _ _ h k => ⟨(zEnv4_ok er D g dg ec fs fv qa sw).2.1 _ _ _ _ h k.1, k.2.1, (zX_ok sb sn xs).2.1 _ _ _ _ h k.2.2⟩, fun _ _ _ _ h k => ⟨(zEnv4_ok er D g dg ec fs fv qa sw).2.2 _ _ _ _ h k.1, k.2.1, (zX_ok sb sn xs).2.2 _ _ _ _ h k.2.2⟩⟩
section ZLW
variable {p : Program} {l : Launch} {e : Env} {R : Room} {s : State} {m : MethodId} {args : Array Value} {below : List Frame} {meth : Method} {c : Code} {cells slots : Nat} {Q : State → Prop}
variable {cc : ByteArray} {nL : Nat} {own : String} {Ts : List Cond} {D : va_G} {tys : List (ClassId × FieldType)} {A : Nat → Prop} {wr ws : va_W} {lv : List (Nat × Value)} {st : List Value} {pc : Nat} {H : Heap} {locs : List Loc}
theorem z_passE (F : zF p s m args meth c cc nL own Ts D tys A wr) {E nm : String} {x : ExceptionTableEntry} {pre : List ExceptionTableEntry} (h0 : x.catchType ≠ 0) (hl : (Cond.classLink own x.catchType nm).before args s = true) (hn : va_Nc E nm s) (t : ∀ z ∈ pre, covers z pc = false ∨ (z.catchType ≠ 0 ∧ ∃ nm : String, (Cond.classLink own z.catchType nm).before args s = true ∧ va_Nc E nm s)) : ∀ z ∈ x :: pre, covers z pc = false ∨ (z.catchType ≠ 0 ∧ ∃ nm : String, (Cond.classLink own z.catchType nm).before args s = true ∧ va_Nc E nm s) := fun z hz => by
  rcases List.mem_cons.mp hz with rfl | hz
  · exact Or.inr ⟨h0, nm, hl, hn⟩
  · exact t z hz
/-- caught -/
theorem z_catchE (F : zF p s m args meth c cc nL own Ts D tys A wr) {E name : String} {hh : List (Nat × Nat × Nat × Nat)} (htab : c.exceptionTable.toList = tableOf hh) (pre : List ExceptionTableEntry) (x : ExceptionTableEntry) (suf : List ExceptionTableEntry) (hsplit : tableOf hh = pre ++ x :: suf) (hpass : ∀ z ∈ pre, covers z pc = false ∨ (z.catchType ≠ 0 ∧ ∃ nm : String, (Cond.classLink own z.catchType nm).before args s = true ∧ va_Nc E nm s)) (hx : covers x pc = true) (h0 : x.catchType ≠ 0) (hlink : (Cond.classLink own x.catchType name).before args s = true) (hcast : va_Nw (.castable E name) s) {pc' : Nat} (hpc : x.handlerPc = pc')
    (k : ∀ q : Nat, zW p l e R s m args below meth c nL D A Q cells slots ws lv [.ref q] pc') : zH p l e R s m args below meth c nL D A Q cells slots ws lv st pc E := fun H locs ls q ce hP hD hS hl h1 h2 h3 => vx_catch F.1.2.2.2.1 pre x suf (htab.trans hsplit) hpass hx h0 hlink (va_Nw.use rfl hcast) h1 h2 h3 (by rw [hpc]; exact k q H locs ls hP hD hS hl)
end ZLW
theorem zc_onMember (mc : Nat) (v : Int32) : f_onMember mc v = 0 ∨ f_onMember mc v = 1 := by
  unfold f_onMember
  repeat' split
  all_goals omega
theorem zc_onPair (mc : Nat) (v : Int32) (w : Int32) : f_onPair mc v w = 0 ∨ f_onPair mc v w = 1 ∨ f_onPair mc v w = 2 := by
  unfold f_onPair
  repeat' split
  all_goals omega
theorem zc_onJoin (mc : Nat) : f_onJoin mc = 0 ∨ f_onJoin mc = 3 := by
  unfold f_onJoin
  repeat' split
  all_goals omega
theorem zc_onPA (mc : Nat) (v : Int32) (w : Int32) (u : Int32) : f_onPA mc v w u = 0 ∨ f_onPA mc v w u = 1 ∨ f_onPA mc v w u = 2 := by
  have h9 := zc_onPair mc v w
  unfold f_onPA
  repeat' split
  all_goals omega
theorem zc_onDebt (mc : Nat) (am : Nat → Int32) (li : Nat → Int32) (de : Nat → Int32) (v : Int32) (w : Int32) (u : Int32) : f_onDebt mc am li de v w u = 0 ∨ f_onDebt mc am li de v w u = 1 ∨ f_onDebt mc am li de v w u = 2 ∨ f_onDebt mc am li de v w u = 3 ∨ f_onDebt mc am li de v w u = 4 := by
  have h9 := zc_onPA mc v w u
  unfold f_onDebt
  repeat' split
  all_goals omega
theorem zc_onPay (mc : Nat) (am : Nat → Int32) (co : Nat → Int32) (v : Int32) (w : Int32) (u : Int32) : f_onPay mc am co v w u = 0 ∨ f_onPay mc am co v w u = 1 ∨ f_onPay mc am co v w u = 2 ∨ f_onPay mc am co v w u = 3 ∨ f_onPay mc am co v w u = 4 := by
  have h9 := zc_onPA mc v w u
  unfold f_onPay
  repeat' split
  all_goals omega
theorem zc_onTri (mc : Nat) (am : Nat → Int32) (v : Int32) (w : Int32) (u : Int32) : f_onTri mc am v w u = 0 ∨ f_onTri mc am v w u = 1 ∨ f_onTri mc am v w u = 2 ∨ f_onTri mc am v w u = 3 := by
  unfold f_onTri
  repeat' split
  all_goals omega
theorem zc_onPl (mc : Nat) (ca : Nat → Int32) (v : Int32) (u : Int32) : f_onPl mc ca v u = 0 ∨ f_onPl mc ca v u = 1 ∨ f_onPl mc ca v u = 2 ∨ f_onPl mc ca v u = 3 := by
  unfold f_onPl
  repeat' split
  all_goals omega
theorem zc_onLi (mc : Nat) (am : Nat → Int32) (v : Int32) (u : Int32) : f_onLi mc am v u = 0 ∨ f_onLi mc am v u = 1 ∨ f_onLi mc am v u = 2 ∨ f_onLi mc am v u = 3 := by
  unfold f_onLi
  repeat' split
  all_goals omega
theorem zc_onHc (u : Int32) : f_onHc u = 0 ∨ f_onHc u = 2 := by
  unfold f_onHc
  repeat' split
  all_goals omega
theorem zc_onDf (mc : Nat) (am : Nat → Int32) (co : Nat → Int32) (ca : Nat → Int32) (de : Nat → Int32) (hc : Int32) (v : Int32) : f_onDf mc am co ca de hc v = 0 ∨ f_onDf mc am co ca de hc v = 1 ∨ f_onDf mc am co ca de hc v = 3 := by
  unfold f_onDf
  repeat' split
  all_goals omega
theorem zc_oc (bn : Nat) (v : Int32) : f_oc bn v = 0 ∨ f_oc bn v = 1 := by
  unfold f_oc
  repeat' split
  all_goals omega
theorem zc_i (p : Prop) (d : Decidable p) (a b : Nat) : (if p then a else b) = a ∨ (if p then a else b) = b := by
  by_cases h : p
  · exact Or.inl (if_pos h)
  · exact Or.inr (if_neg h)
set_option maxHeartbeats 4000000 in
set_option maxRecDepth 100000 in
theorem c_X10_meanPosition (l : Launch) (D : va_G) (g : Nat → ClassId) (er : Nat → Nat) (a : Nat → Nat) (am : Nat → Int32) (mc : Nat) (hc : Int32) (ne : Int32) (lo : Int32) (hs : Int32) (ep : Int32) (fc : Int32) (hFl : zFl) (hm : mc ≤ 8) (h1 : 1 ≤ mc) (sz : Nat) : Met l yX10_meanPosition wsX10_meanPosition { frames := 4, cells := 0, slots := 0, locals := 88 } (zPc D (gT g) (zEnv er) [.ref (a 0)] [] [(a 0, .inr (10, [.ref (a 1), .ref (a 8), .ref (a 15), .ref (a 22), .ref (a 24), .ref (a 27), .ref (a 33), .ref (a 91), .ref (a 94), .int hs, .int ep, .int fc])), (a 1, .inr (7, [.ref (a 2), .ref (a 3), .ref (a 4), .ref (a 5), .ref (a 6), .ref (a 7), .int (nI mc), .int hc, .int ne, .int lo])), (a 2, .inl (g 0, 64, .inl am))] sz) (zQd D [] (fun (r : UInt64) (_ : Unit) => r = FP.ddiv (FP.i2d (f_absN am mc)) (FP.i2d (nI mc))) (fun _ => []) sz) 0 0 (va_A [] sz) := by
  refine z_met (y := yX10_meanPosition) (cc := cX10_meanPosition) (nL := 1) (rm := { frames := 4, cells := 0, slots := 0, locals := 88 }) (D := D) (tys := gT g) (wr := [(a 0, .inr (10, [.ref (a 1), .ref (a 8), .ref (a 15), .ref (a 22), .ref (a 24), .ref (a 27), .ref (a 33), .ref (a 91), .ref (a 94), .int hs, .int ep, .int fc])), (a 1, .inr (7, [.ref (a 2), .ref (a 3), .ref (a 4), .ref (a 5), .ref (a 6), .ref (a 7), .int (nI mc), .int hc, .int ne, .int lo])), (a 2, .inl (g 0, 64, .inl am))]) (P0 := zEnv er) (As := [.ref (a 0)]) (ww := []) (Qc := zQd D [] (fun (r : UInt64) (_ : Unit) => r = FP.ddiv (FP.i2d (f_absN am mc)) (FP.i2d (nI mc))) (fun _ => [])) (ret := (some .double)) (by decide) rfl (Nat.le_of_ble_eq_true rfl) ?_ sz
  intro p e s m args below meth c A Q hA hQ F E hr hlk hin
  show zW p l e { frames := 4, cells := 0, slots := 0, locals := 88 } s m args below meth c 1 D A Q 0 0 [] [(0, .ref (a 0))] [] 0
  refine z_aload_n F 0 dX10_meanPosition_0 rfl rfl ?_
  refine z_get (C := RX10) (T := TX10) (N := 12) F (fun w h => List.mem_cons_of_mem _ (List.mem_append_left _ (List.mem_append_left _ (List.mem_append_left _ (List.mem_append_right _ (h)))))) 0 rfl rfl 0 (by decide) (List.mem_cons_of_mem _ (List.mem_append_left _ (List.mem_append_left _ (List.mem_append_left _ (List.mem_append_left _ (List.mem_append_left _ (List.mem_of_getElem? (i := 2) rfl))))))) rfl rfl dX10_meanPosition_1 ?_
  refine z_getN (C := RX5) (T := TX5) (N := 10) F (fun w h => List.mem_cons_of_mem _ (List.mem_append_left _ (List.mem_append_left _ (List.mem_append_right _ (h))))) 1 rfl rfl 6 (by decide) (zEnv.nf E 14 rfl) rfl rfl dX10_meanPosition_4 ?_
  refine z_if_ne (tgt := 20) F dX10_meanPosition_7 (by decide) (fun c1 => ?_) (fun c1 => ?_)
  · refine z_aload_n F 0 dX10_meanPosition_20 rfl rfl ?_
    refine z_get (C := RX10) (T := TX10) (N := 12) F (fun w h => List.mem_cons_of_mem _ (List.mem_append_left _ (List.mem_append_left _ (List.mem_append_left _ (List.mem_append_right _ (h)))))) 0 rfl rfl 0 (by decide) (List.mem_cons_of_mem _ (List.mem_append_left _ (List.mem_append_left _ (List.mem_append_left _ (List.mem_append_left _ (List.mem_append_left _ (List.mem_of_getElem? (i := 2) rfl))))))) rfl rfl dX10_meanPosition_21 ?_
    refine z_calli0 F (z_runV (st := []) F zNo_ok trivial (fun sz => c_X5_sumOfAbsolutePositions l D g (a 1) (a 2) (a 3) (a 4) (a 5) (a 6) (a 7) am mc hc ne lo (by omega) sz) (cwV 0 F.1.2.2.2.2 gX10_meanPosition_X5_sumOfAbsolutePositions rfl rfl rfl (by decide +kernel) ⟨Nat.le_of_ble_eq_true rfl, Nat.le_of_ble_eq_true rfl⟩) 1 rfl rfl rfl [] [1, 2] rfl rfl (by decide) rfl rfl (Nat.le_of_ble_eq_true rfl) dX10_meanPosition_24 ⟨Nat.le_of_ble_eq_true rfl, Nat.le_of_ble_eq_true rfl⟩) (fun r3 _ hw2 => ?_)
    subst hw2
    refine z_i2d F dX10_meanPosition_27 ?_
    refine z_aload_n F 0 dX10_meanPosition_28 rfl rfl ?_
    refine z_get (C := RX10) (T := TX10) (N := 12) F (fun w h => List.mem_cons_of_mem _ (List.mem_append_left _ (List.mem_append_left _ (List.mem_append_left _ (List.mem_append_right _ (h)))))) 0 rfl rfl 0 (by decide) (List.mem_cons_of_mem _ (List.mem_append_left _ (List.mem_append_left _ (List.mem_append_left _ (List.mem_append_left _ (List.mem_append_left _ (List.mem_of_getElem? (i := 2) rfl))))))) rfl rfl dX10_meanPosition_29 ?_
    refine z_getN (C := RX5) (T := TX5) (N := 10) F (fun w h => List.mem_cons_of_mem _ (List.mem_append_left _ (List.mem_append_left _ (List.mem_append_right _ (h))))) 1 rfl rfl 6 (by decide) (zEnv.nf E 14 rfl) rfl rfl dX10_meanPosition_32 ?_
    refine z_i2d F dX10_meanPosition_35 ?_
    refine z_ddiv F dX10_meanPosition_36 (hFl.1 _ _ h1 hm) ?_
    exact z_dret F hA hQ hlk hr () (rfl) (rfl) dX10_meanPosition_37
  · exact absurd (nI_eq (b := 0) (by omega) (by decide) |>.mp c1) (by omega)
set_option maxHeartbeats 4000000 in
set_option maxRecDepth 100000 in
theorem c_X10_debtShare (l : Launch) (D : va_G) (g : Nat → ClassId) (er : Nat → Nat) (a : Nat → Nat) (am : Nat → Int32) (mc : Nat) (hc : Int32) (ne : Int32) (lo : Int32) (hs : Int32) (ep : Int32) (fc : Int32) (hFl : zFl) (hm : mc ≤ 8) (h2 : 2 ≤ mc) (sz : Nat) : Met l yX10_debtShare wsX10_debtShare { frames := 1, cells := 0, slots := 0, locals := 22 } (zPc D (gT g) (zEnv er) [.ref (a 0)] [] [(a 0, .inr (10, [.ref (a 1), .ref (a 8), .ref (a 15), .ref (a 22), .ref (a 24), .ref (a 27), .ref (a 33), .ref (a 91), .ref (a 94), .int hs, .int ep, .int fc])), (a 1, .inr (7, [.ref (a 2), .ref (a 3), .ref (a 4), .ref (a 5), .ref (a 6), .ref (a 7), .int (nI mc), .int hc, .int ne, .int lo])), (a 2, .inl (g 0, 64, .inl am))] sz) (zQf D [] (fun (r : UInt32) (_ : Unit) => r = FP.fdiv (FP.i2f (f_cnt am)) (FP.i2f (nI mc * (nI mc - 1)))) (fun _ => []) sz) 0 0 (va_A [] sz) := by
  refine z_met (y := yX10_debtShare) (cc := cX10_debtShare) (nL := 2) (rm := { frames := 1, cells := 0, slots := 0, locals := 22 }) (D := D) (tys := gT g) (wr := [(a 0, .inr (10, [.ref (a 1), .ref (a 8), .ref (a 15), .ref (a 22), .ref (a 24), .ref (a 27), .ref (a 33), .ref (a 91), .ref (a 94), .int hs, .int ep, .int fc])), (a 1, .inr (7, [.ref (a 2), .ref (a 3), .ref (a 4), .ref (a 5), .ref (a 6), .ref (a 7), .int (nI mc), .int hc, .int ne, .int lo])), (a 2, .inl (g 0, 64, .inl am))]) (P0 := zEnv er) (As := [.ref (a 0)]) (ww := []) (Qc := zQf D [] (fun (r : UInt32) (_ : Unit) => r = FP.fdiv (FP.i2f (f_cnt am)) (FP.i2f (nI mc * (nI mc - 1)))) (fun _ => [])) (ret := (some .float)) (by decide) rfl (Nat.le_of_ble_eq_true rfl) ?_ sz
  intro p e s m args below meth c A Q hA hQ F E hr hlk hin
  show zW p l e { frames := 1, cells := 0, slots := 0, locals := 22 } s m args below meth c 2 D A Q 0 0 [] [(0, .ref (a 0))] [] 0
  refine z_aload_n F 0 dX10_debtShare_0 rfl rfl ?_
  refine z_get (C := RX10) (T := TX10) (N := 12) F (fun w h => List.mem_cons_of_mem _ (List.mem_append_left _ (List.mem_append_left _ (List.mem_append_left _ (List.mem_append_right _ (h)))))) 0 rfl rfl 0 (by decide) (List.mem_cons_of_mem _ (List.mem_append_left _ (List.mem_append_left _ (List.mem_append_left _ (List.mem_append_left _ (List.mem_of_getElem? (i := 2) rfl)))))) rfl rfl dX10_debtShare_1 ?_
  refine z_getN (C := RX5) (T := TX5) (N := 10) F (fun w h => List.mem_cons_of_mem _ (List.mem_append_left _ (List.mem_append_left _ (List.mem_append_right _ (h))))) 1 rfl rfl 6 (by decide) (zEnv.nf E 14 rfl) rfl rfl dX10_debtShare_4 ?_
  refine z_istore_n (lv' := [(1, .int (nI mc)), (0, .ref (a 0))]) F dX10_debtShare_7 rfl (by decide) rfl ?_
  refine z_iload_n F 0 dX10_debtShare_8 rfl rfl ?_
  refine z_iconst (v := 2) F dX10_debtShare_9 (by decide) ?_
  refine z_icmp_ge (tgt := 23) F dX10_debtShare_10 (by decide) (fun c1 => ?_) (fun c1 => ?_)
  · refine z_aload_n F 1 dX10_debtShare_23 rfl rfl ?_
    refine z_get (C := RX10) (T := TX10) (N := 12) F (fun w h => List.mem_cons_of_mem _ (List.mem_append_left _ (List.mem_append_left _ (List.mem_append_left _ (List.mem_append_right _ (h)))))) 0 rfl rfl 0 (by decide) (List.mem_cons_of_mem _ (List.mem_append_left _ (List.mem_append_left _ (List.mem_append_left _ (List.mem_append_left _ (List.mem_of_getElem? (i := 2) rfl)))))) rfl rfl dX10_debtShare_24 ?_
    refine z_calli0 F (z_runV (st := []) F zNo_ok trivial (fun sz => c_X5_countDebts l D g (a 1) (a 2) (a 3) (a 4) (a 5) (a 6) (a 7) am mc hc ne lo sz) (cwV 0 F.1.2.2.2.2 gX10_debtShare_X5_countDebts rfl rfl rfl (by decide +kernel) ⟨Nat.le_of_ble_eq_true rfl, Nat.le_of_ble_eq_true rfl⟩) 1 rfl rfl rfl [] [1, 2] rfl rfl (by decide) rfl rfl (Nat.le_of_ble_eq_true rfl) dX10_debtShare_27 ⟨Nat.le_of_ble_eq_true rfl, Nat.le_of_ble_eq_true rfl⟩) (fun r3 _ hw2 => ?_)
    subst hw2
    refine z_i2f F dX10_debtShare_30 ?_
    refine z_iload_n F 0 dX10_debtShare_31 rfl rfl ?_
    refine z_iload_n F 0 dX10_debtShare_32 rfl rfl ?_
    refine z_iconst (v := 1) F dX10_debtShare_33 (by decide) ?_
    refine z_isub F dX10_debtShare_34 ?_
    refine z_imul F dX10_debtShare_35 ?_
    refine z_i2f F dX10_debtShare_36 ?_
    refine z_fdiv F dX10_debtShare_37 (hFl.2 _ _ h2 hm) ?_
    exact z_fret F hA hQ hlk hr () (rfl) (rfl) dX10_debtShare_38
  · exact absurd ((nI_leI (by decide : 2 < 2 ^ 31) (by omega)).mpr h2) c1
