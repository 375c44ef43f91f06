/-! ===== nothing is taken back: cells, slots, things ===== -/
section SMM
def so_mz (h : so_H) (c s : Nat) (Z : so_Z0) : Prop := match Z with
  | .inl (_, _, _, h1, c1, s1) => so_sh h1 ∧ c ≤ c1 ∧ s ≤ s1 ∧ so_hlen h ≤ so_hlen h1
  | .inr (.inl (_, _, _, _, h1, c1, s1)) => h1 = h ∧ c1 = c ∧ s1 = s
  | .inr (.inr (_, h1, c1, s1)) => h1 = h ∧ c ≤ c1 ∧ s ≤ s1
def so_mo (w : so_W so_Y) : Prop := ∀ q x y lv st h c s Z, so_sh h → w so_ynx so_ymm so_yzz none q x y lv st h c s = some Z → so_mz h c s Z
theorem so_mz0 {h : so_H} {c s q : Nat} {lv : so_L} {st : List Nat} (hs : so_sh h) : so_mz h c s (.inl (q, lv, st, h, c, s)) := ⟨hs, Nat.le_refl _, Nat.le_refl _, Nat.le_refl _⟩
theorem so_mzu {h : so_H} {c s q a : Nat} {o : so_O} {lv : so_L} {st : List Nat} (hs : so_sh h) : so_mz h c s (.inl (q, lv, st, so_upd h a o, c, s)) := ⟨(so_upd_eq h hs a o).1, Nat.le_refl _, Nat.le_refl _, Nat.le_of_eq (so_upd_len hs a o).symm⟩
theorem so_mzp {h : so_H} {c s q n : Nat} {o : so_O} {lv : so_L} {st : List Nat} (hs : so_sh h) : so_mz h c s (.inl (q, lv, st, so_push h o, c + 1, s + n)) := ⟨(so_push_eq o h hs).1, Nat.le_succ _, Nat.le_add_right _ _, by rw [so_push_len hs]; exact Nat.le_succ _⟩
theorem sm0 (t : Nat → Bool) : so_mo (so_o0 t) := by
  intro q x y lv st h c s Z hs hh
  obtain ⟨v, -, -, rfl⟩ := si0 hh
  exact so_mz0 hs
theorem sm1 (t : Nat → Bool) : so_mo (so_o1 t) := by
  intro q x y lv st h c s Z hs hh
  obtain ⟨v, st1, -, -, rfl⟩ := si1 hh
  exact so_mz0 hs
theorem sm2 : so_mo so_o2 := by
  intro q x y lv st h c s Z hs hh
  have := si2 (y := y) hh
  subst this
  exact so_mz0 hs
theorem smar (f : Nat → Nat → Nat) : so_mo (so_ar f) := by
  intro q x y lv st h c s Z hs hh
  obtain ⟨b, a, t, -, -, -, rfl⟩ := siar (x := x) (y := y) hh
  exact so_mz0 hs
theorem smmx (f : Nat → Nat → Nat) : so_mo (so_mx f) := by
  intro q x y lv st h c s Z hs hh
  obtain ⟨b, a, t, -, -, -, -, rfl⟩ := simx (x := x) (y := y) hh
  exact so_mz0 hs
theorem sm3 : so_mo so_o3 := by
  intro q x y lv st h c s Z hs hh
  obtain ⟨a, t, -, -, rfl⟩ := si3 hh
  exact so_mz0 hs
theorem sm4 : so_mo so_o4 := by
  intro q x y lv st h c s Z hs hh
  obtain ⟨b, a, t, -, -, -, rfl⟩ := si4 hh
  exact so_mz0 hs
theorem sm5 : so_mo so_o5 := by
  intro q x y lv st h c s Z hs hh
  have := si5 (q := q) (x := x) hh
  subst this
  exact so_mz0 hs
theorem sm6 : so_mo so_o6 := by
  intro q x y lv st h c s Z hs hh
  obtain ⟨r, t, n, N, -, -, -, rfl⟩ := si6 hh
  exact so_mz0 hs
theorem sm7 (t : Nat → Bool) : so_mo (so_o7 t) := by
  intro q x y lv st h c s Z hs hh
  obtain ⟨v, r, st1, n, N, -, -, -, -, -, rfl⟩ := si7 hh
  exact so_mzu hs
theorem sm8 (scr : List Nat) : so_mo (so_o8 scr) := by
  intro q x y lv st h c s Z hs hh
  obtain ⟨j, r, t, -, -, ⟨-, -, w, -, rfl⟩ | ⟨-, n, N, -, -, rfl⟩⟩ := si8 hh
  · exact so_mz0 hs
  · exact so_mz0 hs
theorem sm9 : so_mo so_o9 := by
  intro q x y lv st h c s Z hs hh
  obtain ⟨v, j, r, t, n, N, -, -, -, -, -, -, rfl⟩ := si9 (x := x) (y := y) hh
  exact so_mzu hs
theorem sm23 : so_mo so_o23 := by
  intro q x y lv st h c s Z hs hh
  obtain ⟨v, j, r, t, n, N, -, -, -, -, -, -, -, rfl⟩ := si23 hh
  exact so_mzu hs
theorem sm13 (cls : Nat → Nat × Nat) : so_mo (so_o13 cls) := by
  intro q x y lv st h c s Z hs hh
  obtain ⟨-, -, -, rfl⟩ := si13 (y := y) hh
  exact so_mzp hs
theorem sm14 : so_mo so_o14 := by
  intro q x y lv st h c s Z hs hh
  obtain ⟨v, t, -, -, -, -, -, -, -, rfl⟩ := si14 (y := y) hh
  exact so_mzp hs
theorem sm16 : so_mo so_o16 := by
  intro q x y lv st h c s Z hs hh
  obtain ⟨v, t, -, -, rfl⟩ := si16 (x := x) (y := y) hh
  exact so_mz0 hs
theorem sm17 (t : Nat → Bool) : so_mo (so_o17 t) := by
  intro q x y lv st h c s Z hs hh
  obtain ⟨v, t, -, -, rfl⟩ := si17 (x := x) (y := y) hh
  exact so_mz0 hs
theorem sm57 : so_mo so_o57 := by
  intro q x y lv st h c s Z hs hh
  obtain ⟨v, t, -, -, -, rfl⟩ := si57 (x := x) (y := y) hh
  exact so_mz0 hs
theorem sm18 : so_mo so_o18 := by
  intro q x y lv st h c s Z hs hh
  obtain ⟨v, -, -, rfl⟩ := si18 hh
  exact so_mz0 hs
theorem sm19 : so_mo so_o19 := by
  intro q x y lv st h c s Z hs hh
  obtain ⟨v, t, -, -, rfl⟩ := si19 (x := x) (y := y) hh
  exact so_mz0 hs
theorem sm22 : so_mo so_o22 := by
  intro q x y lv st h c s Z hs hh
  obtain ⟨b, a, t, -, -, -, -, -, rfl⟩ := si22 (x := x) (y := y) hh
  exact so_mz0 hs
theorem sm27 (scr : List Nat) : so_mo (so_o27 scr) := by
  intro q x y lv st h c s Z hs hh
  obtain ⟨r, t, -, ⟨-, rfl⟩ | ⟨-, n, N, -, rfl⟩⟩ := si27 (x := x) (y := y) hh
  · exact so_mz0 hs
  · exact so_mz0 hs
theorem sm28 (sw : Nat → Nat) : so_mo (so_o28 sw) := by
  intro q x y lv st h c s Z hs hh
  obtain ⟨v, t, -, -, -, rfl⟩ := si28 (q := q) (x := x) (y := y) hh
  exact so_mz0 hs
theorem sm30 : so_mo so_o30 := by
  intro q x y lv st h c s Z hs hh
  obtain ⟨n, b, a, t, na, Na, nb, Nb, -, -, -, -, -, -, -, -, -, rfl⟩ := si30 (x := x) (y := y) hh
  exact so_mzu hs
theorem sm11 (t : Nat → Bool) : so_mo (so_o11 t) := by
  intro q x y lv st h c s Z hs hh
  obtain ⟨v, -, -, rfl⟩ := si11 (q := q) (x := x) (y := y) (lv := lv) hh
  exact ⟨rfl, Nat.le_refl _, Nat.le_refl _⟩
theorem sm12 : so_mo so_o12 := by
  intro q x y lv st h c s Z hs hh
  obtain ⟨-, rfl⟩ := si12 (q := q) (x := x) (y := y) (lv := lv) hh
  exact ⟨rfl, Nat.le_refl _, Nat.le_refl _⟩
theorem sm15 : so_mo so_o15 := by
  intro q x y lv st h c s Z hs hh
  obtain ⟨-, rfl⟩ := si15 (q := q) (x := x) (y := y) (lv := lv) hh
  exact ⟨rfl, Nat.le_succ _, Nat.le_add_right _ _⟩
theorem sm20 : so_mo so_o20 := by
  intro q x y lv st h c s Z hs hh
  obtain ⟨as, t, -, -, -, -, -, -, rfl⟩ := si20 (q := q) hh
  exact ⟨rfl, rfl, rfl⟩
theorem sm21 : so_mo so_o21 := by
  intro q x y lv st h c s Z hs hh
  obtain ⟨r, as, t, -, -, -, -, -, -, -, rfl⟩ := si21 (q := q) hh
  exact ⟨rfl, rfl, rfl⟩
theorem sm10 : so_mo so_o10 := by
  intro q x y lv st h c s Z hs hh
  obtain ⟨r, as, t, n, N, -, -, -, -, -, -, -, -, rfl⟩ := si10 (q := q) hh
  exact ⟨rfl, rfl, rfl⟩
theorem smbad : so_mo so_bad := by
  intro q x y lv st h c s Z hs hh
  cases hh
theorem sm_br {k n : Nat} {a b : so_W so_Y} (ha : so_mo a) (hb : so_mo b) : so_mo (so_br k n a b) := by
  unfold so_br
  cases Nat.blt k n
  · exact hb
  · exact ha
theorem so_mono1 (scr : List Nat) (o : Nat) : so_mo (so_ops scr o) := by
  unfold so_ops
  repeat' (with_reducible refine sm_br ?_ ?_)
  all_goals with_reducible first | exact sm0 _ | exact sm1 _ | exact sm2 | exact smar _ | exact smmx _ | exact sm3 | exact sm4 | exact sm5 | exact sm6 | exact sm7 _ | exact sm8 _ | exact sm9 | exact sm23 | exact sm13 _ | exact sm14 | exact sm16 | exact sm17 _ | exact sm57 | exact sm18 | exact sm19 | exact sm22 | exact sm27 _ | exact sm28 _ | exact sm30 | exact sm11 _ | exact sm12 | exact sm15 | exact sm20 | exact sm21 | exact sm10 | exact smbad
theorem so_mono {scr : List Nat} {code : Nat → Option so_C} {tab : Nat → List (Nat × Nat × Nat × Nat)} : ∀ (n d k : Nat) (cd : so_C) (pc : Nat) (lv : so_L) (st : List Nat) (h : so_H) (c s : Nat) (r : so_R) (h' : so_H) (c' s' : Nat), so_sh h → so_run (so_ops scr) code tab n d k cd pc lv st h c s = some (r, h', c', s') → so_sh h' ∧ c ≤ c' ∧ s ≤ s' ∧ so_hlen h ≤ so_hlen h' := by
  intro n
  induction n with
  | zero => intro d k cd pc lv st h c s r h' c' s' _ hr; cases hr
  | succ n ih =>
    intro d k cd pc lv st h c s r h' c' s' hs hr
    rw [so_run_s] at hr
    cases hE : cd pc with
    | none => rw [hE] at hr; cases hr
    | some E =>
      rw [hE] at hr
      dsimp only at hr
      cases hY : so_do (so_ops scr) pc lv st h c s E with
      | none => rw [hY] at hr; cases hr
      | some X =>
        rw [hY] at hr
        have hm : so_mz h c s X := by
          obtain ⟨o, x, y, len⟩ := E
          have hY : so_fn (Nat.add pc len) (so_do3 (so_ops scr) lv st h c s o x y) = some X := hY
          rw [so_fn_eq] at hY
          exact so_mono1 scr o _ x y lv st h c s X hs hY
        match X, hr, hm with
        | .inl (q, lv1, st1, h1, c1, s1), hr, hm =>
          obtain ⟨a1, a2, a3, a4⟩ := hm
          obtain ⟨b1, b2, b3, b4⟩ := ih _ _ _ _ _ _ _ _ _ _ _ _ _ a1 hr
          exact ⟨b1, Nat.le_trans a2 b2, Nat.le_trans a3 b3, Nat.le_trans a4 b4⟩
        | .inr (.inr (r1, h1, c1, s1)), hr, hm =>
          obtain ⟨rfl, a2, a3⟩ := hm
          cases hr
          exact ⟨hs, a2, a3, Nat.le_refl _⟩
        | .inr (.inl (x, as, lv1, st1, h1, c1, s1)), hr, hm =>
          obtain ⟨rfl, rfl, rfl⟩ := hm
          cases d with
          | zero => cases hr
          | succ d =>
            dsimp only at hr
            cases hx : code x with
            | none => rw [hx] at hr; cases hr
            | some cd2 =>
              rw [hx] at hr
              dsimp only at hr
              cases hr1 : so_run (so_ops scr) code tab n d x cd2 0 (so_args as 0) [] h1 c1 s1 with
              | none => rw [hr1] at hr; cases hr
              | some R1 =>
                rw [hr1] at hr
                match R1, hr1, hr with
                | (.inl v, h2, c2, s2), hr1, hr =>
                  obtain ⟨a1, a2, a3, a4⟩ := ih _ _ _ _ _ _ _ _ _ _ _ _ _ hs hr1
                  obtain ⟨b1, b2, b3, b4⟩ := ih _ _ _ _ _ _ _ _ _ _ _ _ _ a1 hr
                  exact ⟨b1, Nat.le_trans a2 b2, Nat.le_trans a3 b3, Nat.le_trans a4 b4⟩
                | (.inr x2, h2, c2, s2), hr1, hr =>
                  obtain ⟨a1, a2, a3, a4⟩ := ih _ _ _ _ _ _ _ _ _ _ _ _ _ hs hr1
                  dsimp only at hr
                  cases hq : so_hnd (tab k) pc x2 with
                  | none =>
                    rw [hq] at hr
                    dsimp only at hr
                    cases ht : tab k with
                    | nil => rw [ht] at hr; cases hr; exact ⟨a1, a2, a3, a4⟩
                    | cons a t => rw [ht] at hr; cases hr
                  | some q =>
                    rw [hq] at hr
                    dsimp only at hr
                    split at hr
                    · obtain ⟨b1, b2, b3, b4⟩ := ih _ _ _ _ _ _ _ _ _ _ _ _ _ (so_push_eq (999, 0, 0) h2 a1).1 hr
                      rw [so_push_len a1] at b4
                      exact ⟨b1, Nat.le_trans a2 b2, Nat.le_trans a3 b3, by omega⟩
                    · cases hr
end SMM
