/-! ===== the token machine: its instructions, its runs ===== -/
noncomputable def so_opsT (fs : so_Q) (k : Nat) : so_W so_Y := (so_br k 22 (so_br k 11 (so_br k 5 (so_br k 2 (so_br k 1 (so_o0 so_int) (so_o1 so_int)) (so_br k 3 so_t2 (so_br k 4 (so_t3 fs) (so_t4 fs)))) (so_br k 8 (so_br k 6 so_o5 (so_br k 7 so_t6 (so_cw2 (so_o7 so_int)))) (so_br k 9 (so_t8 fs) (so_br k 10 (so_cw2 so_o9) so_o10)))) (so_br k 16 (so_br k 13 (so_br k 12 (so_o11 so_int) so_o12) (so_br k 14 (so_o13 so_cls) (so_br k 15 (so_cw2 so_o14) so_o15))) (so_br k 19 (so_br k 17 so_o16 (so_br k 18 (so_o17 so_cat) so_t18)) (so_br k 20 (so_cw2 so_o19) (so_br k 21 so_o20 so_o21))))) (so_br k 39 (so_br k 32 (so_br k 27 (so_br k 23 so_o22 (so_cw2 so_o23)) (so_br k 28 (so_t27 fs) (so_br k 30 (so_cw2 (so_o28 so_sw)) (so_cw2 so_o30)))) (so_br k 35 (so_br k 33 (so_cw2 (so_ar so_add)) (so_br k 34 (so_cw2 (so_ar so_sub)) (so_cw2 (so_ar so_mul)))) (so_br k 36 (so_t35 fs) (so_br k 37 (so_cw2 (so_ar Nat.xor)) (so_cw2 (so_ar so_shl)))))) (so_br k 54 (so_br k 51 (so_br k 50 (so_cw2 (so_ar so_ushr)) so_bad) (so_br k 52 (so_o0 so_ref) (so_br k 53 (so_o1 so_ref) (so_o11 so_ref)))) (so_br k 57 (so_br k 55 (so_o7 so_bo) (so_br k 56 (so_o7 so_ref) (so_o11 so_bo))) (so_br k 58 so_o57 (so_br k 59 (so_cw2 (so_mx so_max)) (so_cw2 (so_mx so_min))))))))
theorem so_topq {ws : Nat → Nat} {scr : List Nat} {fs : so_Q} (hf : ∀ e ∈ fs, so_hq scr ws e) (k : Nat) : so_sim ws (so_opsT fs k) (so_ops scr k) := (sk_br (sk_br (sk_br (sk_br (sk_br (sk_0 st_int) (sk_1 st_int)) (sk_br sk_2 (sk_br (sk_3 hf) (sk_4 hf)))) (sk_br (sk_br sk_5 (sk_br sk_6 sk_7i)) (sk_br (sk_8 hf) (sk_br sk_9 sk_10)))) (sk_br (sk_br (sk_br (sk_11 (fun v hv => (st_int v).trans hv)) sk_12) (sk_br sk_13 (sk_br sk_14 sk_15))) (sk_br (sk_br sk_16 (sk_br (sk_17 st_cat) sk_18)) (sk_br sk_19 (sk_br sk_20 sk_21))))) (sk_br (sk_br (sk_br (sk_br sk_22 sk_23) (sk_br (sk_27 hf) (sk_br sk_28 sk_30))) (sk_br (sk_br (sk_ar (fun a b _ _ => Nat.mod_lt _ (by decide))) (sk_br (sk_ar (fun a b _ _ => Nat.mod_lt _ (by decide))) (sk_ar (fun a b _ _ => Nat.mod_lt _ (by decide))))) (sk_br (sk_35 hf) (sk_br (sk_ar (fun a b ha hb => Nat.xor_lt_two_pow (n := 32) ha hb)) (sk_ar (fun a b _ _ => Nat.mod_lt _ (by decide))))))) (sk_br (sk_br (sk_br (sk_ar (fun a b _ _ => Nat.lt_of_le_of_lt (by rw [show so_ushr a b = (a % 4294967296) >>> (b % 32) from rfl, Nat.shiftRight_eq_div_pow]; exact Nat.div_le_self _ _) (Nat.mod_lt a (by decide)))) sk_bad) (sk_br (sk_0 st_ref) (sk_br (sk_1 st_ref) (sk_11 (fun v hv => (st_ref v).trans hv))))) (sk_br (sk_br (sk_7 (fun v hv => st_isbo hv)) (sk_br (sk_7 (fun v hv => st_isref hv)) (sk_11 (fun v hv => st_bo hv)))) (sk_br sk_57 (sk_br (sk_mx so_max_lt) (sk_mx so_min_lt)))))))
section SMTR
variable {ws : Nat → Nat} {scr : List Nat} {fs : so_Q} {code : Nat → Option so_C} {tab : Nat → List (Nat × Nat × Nat × Nat)}
theorem so_tdo (hf : ∀ e ∈ fs, so_hq scr ws e) {pc : Nat} {lv : so_L} {st : List Nat} {h : so_H} {c s : Nat} {E : so_E} {Z : so_Z0} (hh : so_do (so_opsT fs) pc lv st h c s E = some Z) : so_do (so_ops scr) pc (so_sv ws lv) (so_ss ws st) h c s E = some (so_sZ ws Z) := by
  obtain ⟨o, x, y, len⟩ := E
  have hh : so_fn (Nat.add pc len) (so_do3 (so_opsT fs) lv st h c s o x y) = some Z := hh
  show so_fn (Nat.add pc len) (so_do3 (so_ops scr) (so_sv ws lv) (so_ss ws st) h c s o x y) = _
  rw [so_fn_eq] at hh ⊢
  exact so_topq hf o _ _ _ _ _ _ _ _ _ hh
noncomputable def so_sr (ws : Nat → Nat) (X : so_R × so_H × Nat × Nat) : so_R × so_H × Nat × Nat := (so_sR ws X.1, X.2)
section
variable {z z' : so_J} {V : (so_S ⊕ (so_R × so_H × Nat × Nat)) → so_T}
theorem so_tun (hV : ∀ R, V (.inr R) = some (.inr (so_sr ws R))) (n : Nat)
    (IH : ∀ k cd pc lv st K h c s X, code k = some cd → so_go (so_opsT fs) code tab z n k cd pc lv st K h c s = some X → so_go (so_ops scr) code tab z' n k cd pc (so_sv ws lv) (so_ss ws st) (so_sK ws K) h c s = V X)
    (x : Nat) (h : so_H) (c s : Nat) (X : so_S ⊕ (so_R × so_H × Nat × Nat)) : ∀ K : List so_F, so_un code tab (so_go (so_opsT fs) code tab z n) x h c s K = some X → so_un code tab (so_go (so_ops scr) code tab z' n) x h c s (so_sK ws K) = V X := by
  intro K
  induction K with
  | nil =>
    intro hh
    have e : some (.inr (.inr x, h, c, s)) = (some X : so_T) := hh
    have e := Option.some.inj e
    subst e
    rw [hV]
    rfl
  | cons f K ih =>
    obtain ⟨k1, pc1, lv1, st1⟩ := f
    intro hh
    rw [so_un_s] at hh
    show so_un code tab (so_go (so_ops scr) code tab z' n) x h c s ((k1, pc1, so_sv ws lv1, so_ss ws st1) :: so_sK ws K) = V X
    rw [so_un_s, st_okl]
    cases hq : so_hnd (tab k1) pc1 x with
    | none =>
      rw [hq] at hh
      dsimp only at hh ⊢
      cases ht : tab k1 with
      | nil =>
        rw [ht] at hh
        exact ih hh
      | cons a t => rw [ht] at hh; cases hh
    | some q =>
      rw [hq] at hh
      dsimp only at hh ⊢
      split at hh
      · next hb =>
        rw [if_pos hb]
        cases hc : code k1 with
        | none => rw [hc] at hh; cases hh
        | some cd1 =>
          rw [hc] at hh
          have := IH _ _ _ _ _ _ _ _ _ _ hc hh
          have e : so_ss ws [4 * so_hlen h + 1] = [4 * so_hlen h + 1] := by
            show [so_sb ws (4 * so_hlen h + 1)] = _
            rw [st_nt (st_mod (by omega))]
          rw [e] at this
          exact this
      · cases hh
theorem so_tgo (hf : ∀ e ∈ fs, so_hq scr ws e) (hV : ∀ R, V (.inr R) = some (.inr (so_sr ws R))) (hz : ∀ k cd pc lv st K h c s X, code k = some cd → z k cd pc lv st K h c s = some X → z' k cd pc (so_sv ws lv) (so_ss ws st) (so_sK ws K) h c s = V X) :
    ∀ n k cd pc lv st K h c s X, code k = some cd → so_go (so_opsT fs) code tab z n k cd pc lv st K h c s = some X → so_go (so_ops scr) code tab z' n k cd pc (so_sv ws lv) (so_ss ws st) (so_sK ws K) h c s = V X := by
  intro n
  induction n with
  | zero => exact hz
  | succ n ih =>
    intro k cd pc lv st K h c s X hc hh
    rw [so_go_s] at hh ⊢
    cases hE : cd pc with
    | none => rw [hE] at hh; cases hh
    | some E =>
      rw [hE] at hh
      dsimp only at hh ⊢
      cases hY : so_do (so_opsT fs) pc lv st h c s E with
      | none => rw [hY] at hh; cases hh
      | some Y =>
        rw [hY] at hh
        rw [so_tdo hf hY]
        match Y, hh with
        | .inl (q, lv1, st1, h1, c1, s1), hh => exact ih _ _ _ _ _ _ _ _ _ _ hc hh
        | .inr (.inl (x, as, lv1, st1, h1, c1, s1)), hh =>
          dsimp only [so_sZ] at hh ⊢
          have el : so_len (so_sK ws K) = so_len K := by rw [so_len_eq, so_len_eq]; exact List.length_map _
          rw [el]
          split at hh
          · next hb =>
            rw [if_pos hb]
            cases hx : code x with
            | none => rw [hx] at hh; cases hh
            | some cd2 =>
              rw [hx] at hh
              have := ih _ _ _ _ _ _ _ _ _ _ hx hh
              rw [← st_args] at this
              exact this
          · cases hh
        | .inr (.inr (.inl v, h1, c1, s1)), hh =>
          dsimp only [so_sZ, so_sR] at hh ⊢
          cases K with
          | nil =>
            have e : some (.inr (.inl v, h1, c1, s1)) = (some X : so_T) := hh
            have e := Option.some.inj e
            subst e
            rw [hV]
            rfl
          | cons f K =>
            obtain ⟨k2, pc2, lv2, st2⟩ := f
            dsimp only at hh
            show (match code k2 with | none => none | some cd2 => so_go (so_ops scr) code tab z' n k2 cd2 (pc2 + 3) (so_sv ws lv2) (so_pv (v.map (so_sb ws)) (so_ss ws st2)) (so_sK ws K) h1 c1 s1) = V X
            cases hx : code k2 with
            | none => rw [hx] at hh; cases hh
            | some cd2 =>
              rw [hx] at hh
              have := ih _ _ _ _ _ _ _ _ _ _ hx hh
              cases v with
              | none => exact this
              | some v => exact this
        | .inr (.inr (.inr x, h1, c1, s1)), hh =>
          exact so_tun hV n ih x h1 c1 s1 X K hh
end
/-- tokens: n steps that come to a state -/
theorem so_thop (hf : ∀ e ∈ fs, so_hq scr ws e) {k pc : Nat} {lv : so_L} {st : List Nat} {K : List so_F} {h : so_H} {c s n k0 pc0 : Nat} {cd cd0 : so_C} {lv0 : so_L} {st0 : List Nat} {K0 : List so_F} {h0 : so_H} {c0 s0 : Nat} (hc : code k = some cd) (hc0 : code k0 = some cd0)
    (hh : so_hits (so_go (so_opsT fs) code tab (so_e8 k pc lv st K h c s) n k0 cd0 pc0 lv0 st0 K0 h0 c0 s0) = true) (z : so_J) :
    so_go (so_ops scr) code tab z n k0 cd0 pc0 (so_sv ws lv0) (so_ss ws st0) (so_sK ws K0) h0 c0 s0 = z k cd pc (so_sv ws lv) (so_ss ws st) (so_sK ws K) h c s := by
  cases hX : so_go (so_opsT fs) code tab (so_e8 k pc lv st K h c s) n k0 cd0 pc0 lv0 st0 K0 h0 c0 s0 with
  | none => rw [hX] at hh; cases hh
  | some X =>
    rw [hX] at hh
    match X, hh, hX with
    | .inl S, hh, hX =>
      have := so_tgo (z := so_e8 k pc lv st K h c s) (z' := z) (V := fun X => match X with | .inl _ => z k cd pc (so_sv ws lv) (so_ss ws st) (so_sK ws K) h c s | .inr R => some (.inr (so_sr ws R))) hf (fun R => rfl) (fun k1 cd1 pc1 lv1 st1 K1 h1 c1 s1 X1 g1 g2 => ?_) n k0 cd0 pc0 lv0 st0 K0 h0 c0 s0 (.inl S) hc0 hX
      · exact this
      · have hi : so_hits (so_e8 k pc lv st K h c s k1 cd1 pc1 lv1 st1 K1 h1 c1 s1) = true := by
          rw [g2]
          have g3 : so_if (and (and (and (Nat.beq k1 k) (Nat.beq pc1 pc)) (and (so_leq so_e2 lv1 lv) (so_leq Nat.beq st1 st))) (and (and (so_leq so_eF K1 K) (so_eH h1 h)) (and (Nat.beq c1 c) (Nat.beq s1 s)))) (some (.inl (0, 0, [], [], [], [], 0, 0))) none = (some X1 : so_T) := g2
          obtain ⟨-, g4⟩ := si_if g3
          have e := Option.some.inj g4
          subst e
          rfl
        obtain ⟨rfl, rfl, rfl, rfl, rfl, rfl, rfl, rfl⟩ := so_e8_eq (cd := cd1) hi
        have g3 : so_if (and (and (and (Nat.beq k1 k1) (Nat.beq pc1 pc1)) (and (so_leq so_e2 lv1 lv1) (so_leq Nat.beq st1 st1))) (and (and (so_leq so_eF K1 K1) (so_eH h1 h1)) (and (Nat.beq c1 c1) (Nat.beq s1 s1)))) (some (.inl (0, 0, [], [], [], [], 0, 0))) none = (some X1 : so_T) := g2
        obtain ⟨-, g4⟩ := si_if g3
        have e := Option.some.inj g4
        subst e
        rw [hc] at g1
        have e2 := Option.some.inj g1
        subst e2
        rfl
/-- tokens: a run to its end -/
theorem so_tend (hf : ∀ e ∈ fs, so_hq scr ws e) {n k0 pc0 : Nat} {cd0 : so_C} {lv0 : so_L} {st0 : List Nat} {K0 : List so_F} {h0 : so_H} {c0 s0 : Nat} {r : so_R} {h : so_H} {c s : Nat} (hc0 : code k0 = some cd0)
    (hh : so_go (so_opsT fs) code tab so_zf n k0 cd0 pc0 lv0 st0 K0 h0 c0 s0 = some (.inr (r, h, c, s))) :
    so_go (so_ops scr) code tab so_zf n k0 cd0 pc0 (so_sv ws lv0) (so_ss ws st0) (so_sK ws K0) h0 c0 s0 = some (.inr (so_sR ws r, h, c, s)) :=
  so_tgo (z := so_zf) (z' := so_zf) (V := fun X => match X with | .inl _ => none | .inr R => some (.inr (so_sr ws R))) hf (fun R => rfl) (fun k1 cd1 pc1 lv1 st1 K1 h1 c1 s1 X1 g1 g2 => by cases g2) n k0 cd0 pc0 lv0 st0 K0 h0 c0 s0 (.inr (r, h, c, s)) hc0 hh
end SMTR
