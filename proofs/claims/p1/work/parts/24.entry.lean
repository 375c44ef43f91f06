/-! ===== a method's first state ===== -/
section SMH
theorem so_find_args (as : List Nat) : ∀ (i x v : Nat), so_find (so_args as i) x = some v → i ≤ x ∧ as[x - i]? = some v := by
  induction as with
  | nil => intro i x v h; cases h
  | cons a t ih =>
    intro i x v h
    have h : so_find ((i, a) :: so_args t (i + 1)) x = some v := h
    rw [so_find_c] at h
    by_cases hx : i = x
    · rw [if_pos hx] at h
      cases h
      subst hx
      exact ⟨Nat.le_refl _, by rw [Nat.sub_self]; rfl⟩
    · rw [if_neg hx] at h
      obtain ⟨h1, h2⟩ := ih (i + 1) x v h
      refine ⟨by omega, ?_⟩
      have e1 : x - i = (x - (i + 1)) + 1 := by omega
      rw [e1, List.getElem?_cons_succ]
      exact h2
theorem so_fill (vs : List Value) (hc : ∀ v ∈ vs, v.category = 1) : ∀ acc : Array Slot, vs.foldl (fun (acc : Array Slot) v => if v.category = 2 then (acc.push (.val v)).push .second else acc.push (.val v)) acc = acc ++ (vs.map Slot.val).toArray := by
  induction vs with
  | nil => intro acc; simp
  | cons v t ih =>
    intro acc
    rw [List.foldl_cons, if_neg (by rw [hc v List.mem_cons_self]; decide), ih (fun w hw => hc w (List.mem_cons_of_mem _ hw))]
    apply Array.ext'
    simp
theorem so_laid (vs : List Value) (nL : Nat) (hc : ∀ v ∈ vs, v.category = 1) : argsToLocals vs.toArray nL = (vs.map Slot.val).toArray ++ Array.replicate (nL - vs.length) .unset := by
  have e1 : vs.toArray.foldl (init := (#[] : Array Slot)) (fun acc v => if v.category = 2 then (acc.push (.val v)).push .second else acc.push (.val v)) = (vs.map Slot.val).toArray := by
    rw [List.foldl_toArray', so_fill vs hc]
    · simp
    · simp
  unfold argsToLocals
  rw [e1]
  simp
theorem so_entry {f : Nat → Nat} {as : List Nat} {nL : Nat} (hc : so_all so_cat as = true) (hn : as.length ≤ nL) : so_lh f (argsToLocals (so_ms f as).toArray nL) nL (so_args as 0) := by
  have hc1 : ∀ v ∈ so_ms f as, v.category = 1 := by
    intro v hv
    obtain ⟨w, hw, rfl⟩ := List.mem_map.mp hv
    exact so_cat_1 (so_all_mem hc w hw)
  have hlen : (so_ms f as).length = as.length := by unfold so_ms; rw [List.length_map]
  rw [so_laid _ _ hc1]
  have hget : ∀ (i : Nat) (z : Slot), ((List.map Slot.val (so_ms f as)).toArray ++ Array.replicate (nL - (so_ms f as).length) Slot.unset)[i]? = some z → (∃ v, z = .val v ∧ v ∈ so_ms f as) ∨ z = .unset := by
    intro i z hz
    have hm : z ∈ (List.map Slot.val (so_ms f as)).toArray ++ Array.replicate (nL - (so_ms f as).length) Slot.unset := Array.mem_of_getElem? hz
    rcases Array.mem_append.mp hm with w | w
    · rw [List.mem_toArray] at w
      obtain ⟨v, hv, rfl⟩ := List.mem_map.mp w
      exact Or.inl ⟨v, rfl, hv⟩
    · exact Or.inr (Array.mem_replicate.mp w).2
  refine ⟨by simp [hlen]; omega, ⟨fun i v hv h2 => ?_, fun i hi => ?_⟩, fun x v hv => ?_⟩
  · rcases hget i _ hv with ⟨w, hw, hm⟩ | hw
    · cases hw
      rw [hc1 v hm] at h2
      cases h2
    · cases hw
  · rcases hget i _ hi with ⟨w, hw, -⟩ | hw
    · cases hw
    · cases hw
  · obtain ⟨-, h2⟩ := so_find_args as 0 x v hv
    rw [Nat.sub_zero] at h2
    have hx : x < as.length := (List.getElem?_eq_some_iff.mp h2).1
    refine ⟨?_, so_all_mem hc v (List.mem_of_getElem? h2)⟩
    rw [Array.getElem?_append_left (by simp [hlen]; exact hx)]
    unfold so_ms
    simp [h2]
end SMH
