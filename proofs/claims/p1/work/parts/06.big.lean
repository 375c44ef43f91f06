/-! ===== nested runs: a method's run with its callees' inside ===== -/
section SMB
variable (ops : Nat → so_W so_Y) (code : Nat → Option so_C) (tab : Nat → List (Nat × Nat × Nat × Nat))
noncomputable def so_run : Nat → Nat → Nat → so_C → Nat → so_L → List Nat → so_H → Nat → Nat → Option (so_R × so_H × Nat × Nat)
  | 0, _, _, _, _, _, _, _, _, _ => none
  | n + 1, d, k, cd, pc, lv, st, h, c, s => match cd pc with
    | none => none
    | some E => match so_do ops pc lv st h c s E with
      | none => none
      | some (.inl (q, lv, st, h, c, s)) => so_run n d k cd q lv st h c s
      | some (.inr (.inl (x, as, lv, st, h, c, s))) => match d with
        | 0 => none
        | d + 1 => match code x with
          | none => none
          | some cd2 => match so_run n d x cd2 0 (so_args as 0) [] h c s with
            | none => none
            | some (.inl v, h, c, s) => so_run n (d + 1) k cd (pc + 3) lv (so_pv v st) h c s
            | some (.inr x, h, c, s) => match so_hnd (tab k) pc x with
              | none => (match tab k with | [] => some (.inr x, h, c, s) | _ :: _ => none)
              | some q => if and (so_okh (so_hlen h) h) (so_okl (so_hlen h) lv) = true then so_run n (d + 1) k cd q lv [4 * so_hlen h + 1] (so_push h (999, 0, 0)) c s else none
      | some (.inr (.inr (r, h, c, s))) => some (r, h, c, s)
end SMB
section SMC
variable {ops : Nat → so_W so_Y} {code : Nat → Option so_C} {tab : Nat → List (Nat × Nat × Nat × Nat)}
theorem so_run_s (n d k : Nat) (cd : so_C) (pc : Nat) (lv : so_L) (st : List Nat) (h : so_H) (c s : Nat) : so_run ops code tab (n + 1) d k cd pc lv st h c s = match cd pc with
    | none => none
    | some E => match so_do ops pc lv st h c s E with
      | none => none
      | some (.inl (q, lv, st, h, c, s)) => so_run ops code tab n d k cd q lv st h c s
      | some (.inr (.inl (x, as, lv, st, h, c, s))) => match d with
        | 0 => none
        | d + 1 => match code x with
          | none => none
          | some cd2 => match so_run ops code tab n d x cd2 0 (so_args as 0) [] h c s with
            | none => none
            | some (.inl v, h, c, s) => so_run ops code tab n (d + 1) k cd (pc + 3) lv (so_pv v st) h c s
            | some (.inr x, h, c, s) => match so_hnd (tab k) pc x with
              | none => (match tab k with | [] => some (.inr x, h, c, s) | _ :: _ => none)
              | some q => if and (so_okh (so_hlen h) h) (so_okl (so_hlen h) lv) = true then so_run ops code tab n (d + 1) k cd q lv [4 * so_hlen h + 1] (so_push h (999, 0, 0)) c s else none
      | some (.inr (.inr (r, h, c, s))) => some (r, h, c, s) := by rfl
/-- more steps don't change an end -/
theorem so_run_up : ∀ (n d k : Nat) (cd : so_C) (pc : Nat) (lv : so_L) (st : List Nat) (h : so_H) (c s : Nat) (R : so_R × so_H × Nat × Nat), so_run ops code tab n d k cd pc lv st h c s = some R → so_run ops code tab (n + 1) d k cd pc lv st h c s = some R := by
  intro n
  induction n with
  | zero => intro d k cd pc lv st h c s R hr; cases hr
  | succ n ih =>
    intro d k cd pc lv st h c s R hr
    rw [so_run_s] at hr ⊢
    cases hE : cd pc with
    | none => rw [hE] at hr; cases hr
    | some E =>
      rw [hE] at hr
      dsimp only at hr ⊢
      cases hY : so_do ops pc lv st h c s E with
      | none => rw [hY] at hr; cases hr
      | some X =>
        rw [hY] at hr
        match X, hr with
        | .inl (q, lv1, st1, h1, c1, s1), hr => exact ih _ _ _ _ _ _ _ _ _ _ hr
        | .inr (.inr (r, h1, c1, s1)), hr => exact hr
        | .inr (.inl (x, as, lv1, st1, h1, c1, s1)), hr =>
          cases d with
          | zero => cases hr
          | succ d =>
            dsimp only at hr ⊢
            cases hx : code x with
            | none => rw [hx] at hr; cases hr
            | some cd2 =>
              rw [hx] at hr
              dsimp only at hr ⊢
              cases hr1 : so_run ops code tab n d x cd2 0 (so_args as 0) [] h1 c1 s1 with
              | none => rw [hr1] at hr; cases hr
              | some R1 =>
                rw [hr1] at hr
                rw [ih _ _ _ _ _ _ _ _ _ _ hr1]
                match R1, hr with
                | (.inl v, h2, c2, s2), hr => exact ih _ _ _ _ _ _ _ _ _ _ hr
                | (.inr x2, h2, c2, s2), hr =>
                  dsimp only at hr ⊢
                  cases hq : so_hnd (tab k) pc x2 with
                  | none => rw [hq] at hr; exact hr
                  | some q =>
                    rw [hq] at hr
                    dsimp only at hr ⊢
                    split at hr
                    · next hb => rw [if_pos hb]; exact ih _ _ _ _ _ _ _ _ _ _ hr
                    · cases hr
theorem so_run_le {n m d k : Nat} {cd : so_C} {pc : Nat} {lv : so_L} {st : List Nat} {h : so_H} {c s : Nat} {R : so_R × so_H × Nat × Nat} (hnm : n ≤ m) (hr : so_run ops code tab n d k cd pc lv st h c s = some R) : so_run ops code tab m d k cd pc lv st h c s = some R := by
  obtain ⟨j, rfl⟩ := Nat.exists_eq_add_of_le hnm
  clear hnm
  induction j with
  | zero => exact hr
  | succ j ih => exact so_run_up _ _ _ _ _ _ _ _ _ _ _ ih
def so_zf : so_J := fun _ _ _ _ _ _ _ _ _ => none
/-- what comes behind an end, in the callers -/
noncomputable def so_res (ops : Nat → so_W so_Y) (code : Nat → Option so_C) (tab : Nat → List (Nat × Nat × Nat × Nat)) (n : Nat) (r : so_R) (h : so_H) (c s : Nat) (K : List so_F) : so_T := match r with
  | .inl v => (match K with | [] => some (.inr (.inl v, h, c, s)) | (k2, pc2, lv2, st2) :: K => match code k2 with | none => none | some cd2 => so_go ops code tab so_zf n k2 cd2 (pc2 + 3) lv2 (so_pv v st2) K h c s)
  | .inr x => so_un code tab (so_go ops code tab so_zf n) x h c s K
theorem so_nest : ∀ (N n : Nat), n ≤ N → ∀ (k : Nat) (cd : so_C) (pc : Nat) (lv : so_L) (st : List Nat) (K : List so_F) (h : so_H) (c s : Nat) (R : so_R × so_H × Nat × Nat), code k = some cd → K.length ≤ 60 → so_go ops code tab so_zf n k cd pc lv st K h c s = some (.inr R) →
    ∃ m r h1 c1 s1, so_run ops code tab m (60 - K.length) k cd pc lv st h c s = some (r, h1, c1, s1) ∧ ∃ n', n' < n ∧ so_res ops code tab n' r h1 c1 s1 K = some (.inr R) := by
  intro N
  induction N with
  | zero =>
    intro n hn k cd pc lv st K h c s R _ _ hg
    have : n = 0 := by omega
    subst this
    cases hg
  | succ N IH =>
    intro n hn k cd pc lv st K h c s R hc hK hg
    cases n with
    | zero => cases hg
    | succ n =>
      rw [so_go_s] at hg
      cases hE : cd pc with
      | none => rw [hE] at hg; cases hg
      | some E =>
        rw [hE] at hg
        dsimp only at hg
        cases hY : so_do ops pc lv st h c s E with
        | none => rw [hY] at hg; cases hg
        | some X =>
          rw [hY] at hg
          match X, hY, hg with
          | .inl (q, lv1, st1, h1, c1, s1), hY, hg =>
            obtain ⟨m, r, h2, c2, s2, a1, n', a2, a3⟩ := IH n (by omega) _ _ _ _ _ _ _ _ _ _ hc hK hg
            refine ⟨m + 1, r, h2, c2, s2, ?_, n', by omega, a3⟩
            rw [so_run_s, hE]; dsimp only; rw [hY]
            exact a1
          | .inr (.inr (.inl v, h1, c1, s1)), hY, hg =>
            refine ⟨1, .inl v, h1, c1, s1, ?_, n, by omega, hg⟩
            rw [so_run_s, hE]; dsimp only; rw [hY]
          | .inr (.inr (.inr x, h1, c1, s1)), hY, hg =>
            refine ⟨1, .inr x, h1, c1, s1, ?_, n, by omega, hg⟩
            rw [so_run_s, hE]; dsimp only; rw [hY]
          | .inr (.inl (x, as, lv1, st1, h1, c1, s1)), hY, hg =>
            dsimp only at hg
            split at hg
            · next hb =>
              rw [so_blt, so_len_eq] at hb
              cases hx : code x with
              | none => rw [hx] at hg; cases hg
              | some cd2 =>
                rw [hx] at hg
                dsimp only at hg
                obtain ⟨m1, r1, h2, c2, s2, a1, n1, a2, a3⟩ := IH n (by omega) _ _ _ _ _ _ _ _ _ _ hx (show ((k, pc, lv1, st1) :: K).length ≤ 60 by simp only [List.length_cons]; omega) hg
                have hd : 60 - K.length = (60 - ((k, pc, lv1, st1) :: K).length) + 1 := by simp only [List.length_cons]; omega
                match r1, a1, a3 with
                | .inl v, a1, a3 =>
                  have a4 : (match code k with | none => none | some cd2 => so_go ops code tab so_zf n1 k cd2 (pc + 3) lv1 (so_pv v st1) K h2 c2 s2) = some (.inr R) := a3
                  rw [hc] at a4
                  obtain ⟨m2, r2, h3, c3, s3, b1, n2, b2, b3⟩ := IH n1 (by omega) _ _ _ _ _ _ _ _ _ _ hc hK a4
                  refine ⟨m1 + m2 + 1, r2, h3, c3, s3, ?_, n2, by omega, b3⟩
                  rw [so_run_s, hE]; dsimp only; rw [hY]; dsimp only
                  rw [hd] at b1 ⊢
                  dsimp only
                  rw [hx]; dsimp only
                  rw [so_run_le (by omega) a1]
                  exact so_run_le (by omega) b1
                | .inr x2, a1, a3 =>
                  have a4 : so_un code tab (so_go ops code tab so_zf n1) x2 h2 c2 s2 ((k, pc, lv1, st1) :: K) = some (.inr R) := a3
                  rw [so_un_s] at a4
                  cases hq : so_hnd (tab k) pc x2 with
                  | none =>
                    rw [hq] at a4
                    dsimp only at a4
                    cases ht : tab k with
                    | cons a t => rw [ht] at a4; cases a4
                    | nil =>
                      rw [ht] at a4
                      refine ⟨m1 + 1, .inr x2, h2, c2, s2, ?_, n1, by omega, a4⟩
                      rw [so_run_s, hE]; dsimp only; rw [hY]; dsimp only
                      rw [hd]; dsimp only
                      rw [hx]; dsimp only
                      rw [a1]; dsimp only
                      rw [hq]; dsimp only
                      rw [ht]
                  | some q =>
                    rw [hq] at a4
                    dsimp only at a4
                    split at a4
                    · next hb2 =>
                      rw [hc] at a4
                      obtain ⟨m2, r2, h3, c3, s3, b1, n2, b2, b3⟩ := IH n1 (by omega) _ _ _ _ _ _ _ _ _ _ hc hK a4
                      refine ⟨m1 + m2 + 1, r2, h3, c3, s3, ?_, n2, by omega, b3⟩
                      rw [so_run_s, hE]; dsimp only; rw [hY]; dsimp only
                      rw [hd] at b1 ⊢
                      dsimp only
                      rw [hx]; dsimp only
                      rw [so_run_le (by omega) a1]; dsimp only
                      rw [hq]; dsimp only
                      rw [if_pos hb2]
                      exact so_run_le (by omega) b1
                    · cases a4
            · cases hg
/-- a run by steps without callers: a nested run -/
theorem so_nested {n k : Nat} {cd : so_C} {pc : Nat} {lv : so_L} {st : List Nat} {h : so_H} {c s : Nat} {R : so_R × so_H × Nat × Nat} (hc : code k = some cd) (hg : so_go ops code tab so_zf n k cd pc lv st [] h c s = some (.inr R)) : ∃ m, so_run ops code tab m 60 k cd pc lv st h c s = some R := by
  obtain ⟨m, r, h1, c1, s1, a1, n', a2, a3⟩ := so_nest n n (Nat.le_refl n) k cd pc lv st [] h c s R hc (Nat.zero_le _) hg
  refine ⟨m, ?_⟩
  match r, a1, a3 with
  | .inl v, a1, a3 =>
    have a4 : some (Sum.inr (Sum.inl v, h1, c1, s1)) = (some (.inr R) : so_T) := a3
    cases a4
    exact a1
  | .inr x, a1, a3 =>
    have a4 : some (Sum.inr (Sum.inr x, h1, c1, s1)) = (some (.inr R) : so_T) := a3
    cases a4
    exact a1
end SMC
