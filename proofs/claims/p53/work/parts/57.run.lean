/-! THE LAW FROM ITS ENTRY, once the start is known -/
set_option maxHeartbeats 4000000 in
set_option maxRecDepth 100000 in
theorem law_run {p : Program} {e : Env} {s : State} {m : MethodId} {below : List Frame} {meth : Method} {c : Code} (l : Launch) (hl9 : l.stackTraces = false) {b L : Nat} {xs : Nat → Int32} (C0 : lw_At p s m meth c b L xs) (D : va_G) (g : Nat → ClassId) (er dg ec fs fv : Nat → Nat) (qa sw : Nat) (hFl : zFl) (hts : ∀ w ∈ wsL_law, w.before #[Value.ref b] s = true) (hK : va_K D vwCl (gT g) s) (E : zEnvL er D g dg ec fs fv qa sw b L xs (fun q => s.heap.size ≤ q) s s.heap) : W p l e room_1 s m #[Value.ref b] below meth c s.heap [] 0 0 (lw_Z below #[Value.ref b] s) (entryFrame m ([Value.ref b] : List Value).toArray 11) := by
  obtain ⟨hx, hb, hr, hml, hown, -, hX, hbl, hlocks, hgv⟩ := id C0
  have F : zF p s m #[Value.ref b] meth c cL_law 11 RL wsL_law D (gT g) (fun q => s.heap.size ≤ q) [] := ⟨⟨hx, hb, hml, hown, hts⟩, hK, fun q h => h, fun k q h => by simp at h, fun k q h => by simp at h, trivial⟩
  have hend : zW p l e room_1 s m #[Value.ref b] below meth c 11 D (fun q => s.heap.size ≤ q) (lw_Z below #[Value.ref b] s) 100000 4400000 [] [] [.int 1] 717 := fun H locs ls hP hD hS hl => va_forget hS.2.2 (W.widen (k := 650893) (n := 7136569) (by decide) (by decide) (lw_ret (Drawn.sameBut.refl s.drawn lw_cs) hx hb hr hlocks dL_law_717))
  have h := law_E l hl9 D g er dg ec fs fv qa sw b L xs hFl F E (law_O l hl9 D g er dg ec fs fv qa sw b L xs hFl F E hend)
  have hl := lv_entry ([.ref b]) (n := 11) (Nat.le_of_ble_eq_true rfl)
  rw [lg_entry_eq]
  generalize (lg_sl ([.ref b]) ++ List.replicate (11 - (lg_sl ([.ref b])).length) Slot.unset).toArray = ls at hl ⊢
  exact h s.heap [] ls (fun k q h => by simp at h) ⟨fun i j p q h => by simp at h, fun k q h => by simp at h⟩ va_S.rf hl
theorem law_flags {l : Launch} (h : l.flags = flags0) : l.stackTraces = false := by
  unfold Launch.stackTraces
  rw [h]
  decide
