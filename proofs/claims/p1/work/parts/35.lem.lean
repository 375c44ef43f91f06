/-! ===== runs put together; a run's end ===== -/
section SMU
/-- the end: true, within the room -/
def so_fin (t : so_T) : Bool := match t with
  | some (.inr (.inl (some v), _, c, s)) => and (Nat.beq v 4) (and (Nat.ble c 600002) (Nat.ble s 7302232))
  | _ => false
theorem so_fin_at {t : so_T} (h : so_fin t = true) : ∃ h' c s, t = some (.inr (.inl (some 4), h', c, s)) ∧ c ≤ 600002 ∧ s ≤ 7302232 := by
  unfold so_fin at h
  split at h
  · next v h1 c s =>
    obtain ⟨g1, g2⟩ := si_and h
    obtain ⟨g3, g4⟩ := si_and g2
    have e := Nat.eq_of_beq_eq_true g1
    subst e
    exact ⟨h1, c, s, rfl, Nat.le_of_ble_eq_true g3, Nat.le_of_ble_eq_true g4⟩
  · cases h
variable {ops : Nat → so_W so_Y} {code : Nat → Option so_C} {tab : Nat → List (Nat × Nat × Nat × Nat)}
theorem so_hop1 {k pc : Nat} {lv : so_L} {st : List Nat} {K : List so_F} {h : so_H} {c s n k0 pc0 : Nat} {cd cd0 : so_C} {lv0 : so_L} {st0 : List Nat} {K0 : List so_F} {h0 : so_H} {c0 s0 : Nat} (hc : code k = some cd) (hc0 : code k0 = some cd0)
    (hh : so_hits (so_go ops code tab (so_e8 k pc lv st K h c s) n k0 cd0 pc0 lv0 st0 K0 h0 c0 s0) = true) (z : so_J) : so_go ops code tab z n k0 cd0 pc0 lv0 st0 K0 h0 c0 s0 = z k cd pc lv st K h c s := by
  obtain ⟨cd1, h1, h2⟩ := so_hop n k0 cd0 pc0 lv0 st0 K0 h0 c0 s0 hc0 hh
  rw [hc] at h1
  have e := Option.some.inj h1
  subst e
  exact h2 z
theorem so_tr {n m : Nat} {k1 k2 k3 pc1 pc2 pc3 : Nat} {d1 d2 d3 : so_C} {lv1 lv2 lv3 : so_L} {st1 st2 st3 : List Nat} {K1 K2 K3 : List so_F} {h1 h2 h3 : so_H} {c1 c2 c3 s1 s2 s3 : Nat} (a : ∀ z : so_J, so_go ops code tab z n k1 d1 pc1 lv1 st1 K1 h1 c1 s1 = z k2 d2 pc2 lv2 st2 K2 h2 c2 s2) (b : ∀ z : so_J, so_go ops code tab z m k2 d2 pc2 lv2 st2 K2 h2 c2 s2 = z k3 d3 pc3 lv3 st3 K3 h3 c3 s3) (z : so_J) :
    so_go ops code tab z (m + n) k1 d1 pc1 lv1 st1 K1 h1 c1 s1 = z k3 d3 pc3 lv3 st3 K3 h3 c3 s3 := by
  rw [so_go_add]
  exact (a _).trans (b z)
end SMU
