/-! ===== runs put together; a run of nested calls out of a run by steps ===== -/
section SMR
variable {ops : Nat → so_W so_Y} {code : Nat → Option so_C} {tab : Nat → List (Nat × Nat × Nat × Nat)}
theorem so_len_eq {α : Type} (l : List α) : so_len l = l.length := by
  induction l with
  | nil => rfl
  | cons a t ih => show Nat.succ (so_len t) = _; rw [ih]; rfl
theorem so_blt {a b : Nat} : Nat.blt a b = true ↔ a < b := by
  show Nat.ble (a + 1) b = true ↔ a < b
  rw [Nat.ble_eq]
  exact Iff.rfl
theorem so_hits_none : so_hits none = false := rfl
theorem so_e8_eq {k pc : Nat} {lv : so_L} {st : List Nat} {K : List so_F} {h : so_H} {c s k' : Nat} {cd : so_C} {pc' : Nat} {lv' : so_L} {st' : List Nat} {K' : List so_F} {h' : so_H} {c' s' : Nat}
    (hh : so_hits (so_e8 k pc lv st K h c s k' cd pc' lv' st' K' h' c' s') = true) : k' = k ∧ pc' = pc ∧ lv' = lv ∧ st' = st ∧ K' = K ∧ h' = h ∧ c' = c ∧ s' = s := by
  have h0 : so_hits (so_if (and (and (and (Nat.beq k' k) (Nat.beq pc' pc)) (and (so_leq so_e2 lv' lv) (so_leq Nat.beq st' st))) (and (and (so_leq so_eF K' K) (so_eH h' h)) (and (Nat.beq c' c) (Nat.beq s' s)))) (some (.inl (0, 0, [], [], [], [], 0, 0))) none) = true := hh
  generalize hb : (and (and (and (Nat.beq k' k) (Nat.beq pc' pc)) (and (so_leq so_e2 lv' lv) (so_leq Nat.beq st' st))) (and (and (so_leq so_eF K' K) (so_eH h' h)) (and (Nat.beq c' c) (Nat.beq s' s)))) = b at h0
  cases b with
  | false => cases h0
  | true =>
    simp only [Bool.and_eq_true] at hb
    obtain ⟨⟨⟨a1, a2⟩, a3, a4⟩, ⟨a5, a6⟩, a7, a8⟩ := hb
    exact ⟨so_beq_eq _ _ a1, so_beq_eq _ _ a2, so_leq_eq so_e2_eq _ _ a3, so_leq_eq so_beq_eq _ _ a4, so_leq_eq so_eF_eq _ _ a5, so_eH_eq _ _ a6, so_beq_eq _ _ a7, so_beq_eq _ _ a8⟩
/-- an exception's way up: to a state, or not, whatever comes then -/
theorem so_hop_un {k pc : Nat} {lv : so_L} {st : List Nat} {K : List so_F} {h : so_H} {c s : Nat} (n : Nat)
    (IH : ∀ k0 cd0 pc0 lv0 st0 K0 h0 c0 s0, code k0 = some cd0 → so_hits (so_go ops code tab (so_e8 k pc lv st K h c s) n k0 cd0 pc0 lv0 st0 K0 h0 c0 s0) = true → ∃ cd, code k = some cd ∧ ∀ z, so_go ops code tab z n k0 cd0 pc0 lv0 st0 K0 h0 c0 s0 = z k cd pc lv st K h c s)
    (x : Nat) (h0 : so_H) (c0 s0 : Nat) : ∀ K0 : List so_F, so_hits (so_un code tab (so_go ops code tab (so_e8 k pc lv st K h c s) n) x h0 c0 s0 K0) = true → ∃ cd, code k = some cd ∧ ∀ z, so_un code tab (so_go ops code tab z n) x h0 c0 s0 K0 = z k cd pc lv st K h c s := by
  intro K0
  induction K0 with
  | nil => intro hh; cases hh
  | cons f K0 ih =>
    obtain ⟨k1, pc1, lv1, st1⟩ := f
    intro hh
    rw [so_un_s] at hh
    cases hq : so_hnd (tab k1) pc1 x with
    | none =>
      rw [hq] at hh
      dsimp only at hh
      cases ht : tab k1 with
      | nil =>
        rw [ht] at hh
        obtain ⟨cd, h1, h2⟩ := ih hh
        refine ⟨cd, h1, fun z => ?_⟩
        rw [so_un_s, hq]
        dsimp only
        rw [ht]
        exact h2 z
      | cons a t => rw [ht] at hh; cases hh
    | some q =>
      rw [hq] at hh
      dsimp only at hh
      split at hh
      · next hb =>
        cases hc : code k1 with
        | none => rw [hc] at hh; cases hh
        | some cd1 =>
          rw [hc] at hh
          obtain ⟨cd, h1, h2⟩ := IH _ _ _ _ _ _ _ _ _ hc hh
          refine ⟨cd, h1, fun z => ?_⟩
          rw [so_un_s, hq]
          dsimp only
          rw [if_pos hb, hc]
          exact h2 z
      · cases hh
/-- n steps that come to a state, whatever comes then -/
theorem so_hop {k pc : Nat} {lv : so_L} {st : List Nat} {K : List so_F} {h : so_H} {c s : Nat} : ∀ n k0 cd0 pc0 lv0 st0 K0 h0 c0 s0, code k0 = some cd0 → so_hits (so_go ops code tab (so_e8 k pc lv st K h c s) n k0 cd0 pc0 lv0 st0 K0 h0 c0 s0) = true →
    ∃ cd, code k = some cd ∧ ∀ z, so_go ops code tab z n k0 cd0 pc0 lv0 st0 K0 h0 c0 s0 = z k cd pc lv st K h c s := by
  intro n
  induction n with
  | zero =>
    intro k0 cd0 pc0 lv0 st0 K0 h0 c0 s0 hc hh
    obtain ⟨rfl, rfl, rfl, rfl, rfl, rfl, rfl, rfl⟩ := so_e8_eq (cd := cd0) hh
    exact ⟨cd0, hc, fun z => rfl⟩
  | succ n ih =>
    intro k0 cd0 pc0 lv0 st0 K0 h0 c0 s0 hc hh
    rw [so_go_s] at hh
    cases hE : cd0 pc0 with
    | none => rw [hE] at hh; cases hh
    | some E =>
      rw [hE] at hh
      dsimp only at hh
      cases hY : so_do ops pc0 lv0 st0 h0 c0 s0 E with
      | none => rw [hY] at hh; cases hh
      | some X =>
        rw [hY] at hh
        match X, hY, hh with
        | .inl (q, lv1, st1, h1, c1, s1), hY, hh =>
          obtain ⟨cd, g1, g2⟩ := ih _ _ _ _ _ _ _ _ _ hc hh
          refine ⟨cd, g1, fun z => ?_⟩
          rw [so_go_s, hE]; dsimp only; rw [hY]
          exact g2 z
        | .inr (.inl (x, as, lv1, st1, h1, c1, s1)), hY, hh =>
          dsimp only at hh
          split at hh
          · next hb =>
            cases hx : code x with
            | none => rw [hx] at hh; cases hh
            | some cd2 =>
              rw [hx] at hh
              obtain ⟨cd, g1, g2⟩ := ih _ _ _ _ _ _ _ _ _ hx hh
              refine ⟨cd, g1, fun z => ?_⟩
              rw [so_go_s, hE]; dsimp only; rw [hY]; dsimp only; rw [if_pos hb, hx]
              exact g2 z
          · cases hh
        | .inr (.inr (.inl v, h1, c1, s1)), hY, hh =>
          dsimp only at hh
          cases K0 with
          | nil => cases hh
          | cons f K0 =>
            obtain ⟨k2, pc2, lv2, st2⟩ := f
            dsimp only at hh
            cases hx : code k2 with
            | none => rw [hx] at hh; cases hh
            | some cd2 =>
              rw [hx] at hh
              obtain ⟨cd, g1, g2⟩ := ih _ _ _ _ _ _ _ _ _ hx hh
              refine ⟨cd, g1, fun z => ?_⟩
              rw [so_go_s, hE]; dsimp only; rw [hY]; dsimp only; rw [hx]
              exact g2 z
        | .inr (.inr (.inr x, h1, c1, s1)), hY, hh =>
          obtain ⟨cd, g1, g2⟩ := so_hop_un n ih x h1 c1 s1 K0 hh
          refine ⟨cd, g1, fun z => ?_⟩
          rw [so_go_s, hE]; dsimp only; rw [hY]
          exact g2 z
theorem so_go_add (z : so_J) (m : Nat) : ∀ n, so_go ops code tab z (m + n) = so_go ops code tab (so_go ops code tab z m) n := by
  intro n
  induction n with
  | zero => rfl
  | succ n ih => show so_go1 ops code tab (so_go ops code tab z (m + n)) = _; rw [ih]; rfl
end SMR
