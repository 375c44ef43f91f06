/-! ===== the induction ===== -/
section SMR2
variable {l : Launch} {mi : Nat → Option so_I} {code : Nat → Option so_C} {tab : Nat → List (Nat × Nat × Nat × Nat)} {Ts Bs : List Cond} {cl : List vw_C} {strs : List (String × Nat × String)} {scr : List Nat} {D : va_G} {base : Nat}
theorem so_sl (hC : so_ctx l mi code tab Ts Bs cl strs scr) : ∀ n, so_SL l mi code tab Ts Bs cl strs scr D base n := by
  intro n
  induction n with
  | zero =>
    intro d k I cd hI hcd p e R s m args below meth c H locs pc ls f lv st h ca sa r h' c' s' c0 s0 f0 n0 a1 a2 a3 a4 a5 a6 a7 a8 a9 a10 a11 a12 a13 a14 a15 a16 a17 a18 a19 a20 a21 hr
    cases hr
  | succ n ih =>
    intro d k I cd hI hcd p e R s m args below meth c H locs pc ls f lv st h ca sa r h' c' s' c0 s0 f0 n0 hx hb hml hmn hret hlk htb hown hts hwd hRf hRl hRc hRs hc0 hs0 hf hn0 hrel hlh hlocs hr
    obtain ⟨hl0, hG, hB, hkl, hs31, hm⟩ := id hC
    obtain ⟨hok, hokH, -⟩ := hm k I cd hI hcd
    rw [so_run_s] at hr
    cases hE : cd pc with
    | none => rw [hE] at hr; cases hr
    | some E =>
      obtain ⟨o, x, y, len⟩ := E
      rw [hE] at hr
      dsimp only at hr
      cases hY : so_do (so_ops scr) pc lv st h ca sa (o, x, y, len) with
      | none => rw [hY] at hr; cases hr
      | some X =>
        rw [hY] at hr
        have hY : so_fn (Nat.add pc len) (so_do3 (so_ops scr) lv st h ca sa o x y) = some X := hY
        rw [so_fn_eq] at hY
        have hY : so_ops scr o so_ynx so_ymm so_yzz none (pc + len) x y lv st h ca sa = some X := hY
        have hmz := so_mono1 scr o _ x y lv st h ca sa X hrel.1 hY
        rcases hok pc o x y len hE with ⟨i, hd, hk⟩ | hR | ⟨ho, hx3, hnoh, ik, is, ic, text, wide, hk15, hstr, d0, d3, d4, d6, d9⟩ | ⟨j, J, hJ, hcall⟩
        · obtain ⟨q1, lv1, st1, h1, c1, s1, rfl, m1, m2, m3, kk⟩ := so_stepA (p := p) (l := l) (e := e) (R := R) (m := m) (args := args) (below := below) (meth := meth) (c := c) (Q := vx_MQ below (so_Qc D cl base scr f0 n0 r h') (so_XC D cl base scr f0 n0 r h') args s (c' - c0) (s' - s0) (fun q => base ≤ q)) (c0 := c0) (s0 := s0) hx hb hml hmn hown hts hwd.1 hkl hs31 (by omega) (by omega) hd hk hY hrel hlh hlocs
          have hsh1 : so_sh h1 := hmz.1
          have hr : so_run (so_ops scr) code tab n d k cd q1 lv1 st1 h1 c1 s1 = some (r, h', c', s') := hr
          obtain ⟨-, b2, b3, -⟩ := so_mono n d k cd q1 lv1 st1 h1 c1 s1 r h' c' s' hsh1 hr
          refine kk (by omega) (by omega) hc0 hs0 (fun f1 H1 ls1 locs1 g1 g2 g3 g4 => ?_)
          exact ih d k I cd hI hcd p e R s m args below meth c H1 locs1 q1 ls1 f1 lv1 st1 h1 c1 s1 r h' c' s' c0 s0 f0 n0 hx hb hml hmn hret hlk htb hown hts hwd hRf hRl hRc hRs (by omega) (by omega) (fun z hz => (g1 z (by omega)).trans (hf z hz)) (by omega) g2 g3 g4 hr
        · rcases hR with ⟨rfl, hd, hrt⟩ | ⟨rfl, hd, hrt⟩ | ⟨rfl, hd, rt, hrt, hrt2⟩ | ⟨rfl, hd, hrt⟩
          · obtain ⟨v, rfl, h2, rfl⟩ := si11 (t := so_int) (q := pc + len) (x := x) (y := y) (lv := lv) (st := st) (h := h) (c := ca) (s := sa) (Z := X) hY
            cases hr
            exact se_i hx hb (hret.trans hrt) hlk hd h2 hf hrel hlocs
          · obtain ⟨v, rfl, h2, rfl⟩ := si11 (t := so_bo) (q := pc + len) (x := x) (y := y) (lv := lv) (st := st) (h := h) (c := ca) (s := sa) (Z := X) hY
            cases hr
            exact se_z hx hb (hret.trans hrt) hlk hd h2 hf hrel hlocs
          · obtain ⟨v, rfl, h2, rfl⟩ := si11 (t := so_ref) (q := pc + len) (x := x) (y := y) (lv := lv) (st := st) (h := h) (c := ca) (s := sa) (Z := X) hY
            cases hr
            exact se_a hx hb (hret.trans hrt) hrt2 hlk hd h2 hf hrel hlocs
          · obtain ⟨rfl, rfl⟩ := si12 (q := pc + len) (x := x) (y := y) (lv := lv) (st := st) (h := h) (c := ca) (s := sa) (Z := X) hY
            cases hr
            exact se_v hx hb (hret.trans hrt) hlk hd hf hrel hlocs
        · subst ho
          obtain ⟨h4, rfl⟩ := si15 (q := pc + len) (x := x) (y := y) (lv := lv) (st := st) (h := h) (c := ca) (s := sa) (Z := X) hY
          cases hr
          obtain ⟨sa1, hsa⟩ := hwd.2.2.1 _ hstr
          have hcat := so_cats f st
          have e1 : ca + 1 - c0 = ca - c0 + 1 := by omega
          have e2 : sa + 6 - s0 = sa - s0 + 6 := by omega
          rw [e1] at hRc ⊢
          rw [e2] at hRs ⊢
          refine sc_frame hlocs (fun hS => ?_)
          exact se_t hx hb hl0 hown hts (fun w hw => so_bw_any (hB w hw) (hwd.2.1 w hw)) hk15 hsa hwd.2.2.2.1 hwd.2.2.2.2.1 hS hml hlh hlk (fun z hz => by rw [htb, hnoh] at hz; cases hz) d0 d3 d4 d6 d9 hx3 (by omega) (by omega) hRc hRs hf hrel
        · -- a call: what comes behind it
          have key : ∀ (as t : List Nat) (a : Array Value) (d1 c2 s2 : Nat) (r1 : so_R) (h2 : so_H) (cd2 : so_C), d = d1 + 1 → code x = some cd2 → so_run (so_ops scr) code tab n d1 x cd2 0 (so_args as 0) [] h ca sa = some (r1, h2, c2, s2) → so_ct t ≤ 8 → so_okl (so_hlen h) lv = true → so_all (so_okv (so_hlen h)) t = true →
              (match (r1, h2, c2, s2) with
                | (.inl v, h, c, s) => so_run (so_ops scr) code tab n (d1 + 1) k cd (pc + 3) lv (so_pv v t) h c s
                | (.inr x, h, c, s) => match so_hnd (tab k) pc x with
                  | none => (match tab k with | [] => some (.inr x, h, c, s) | _ :: _ => none)
                  | some q => if and (so_okh (so_hlen h) h) (so_okl (so_hlen h) lv) = true then so_run (so_ops scr) code tab n (d1 + 1) k cd q lv [4 * so_hlen h + 1] (so_push h (999, 0, 0)) c s else none) = some (r, h', c', s') →
              (ca - c0 + (c2 - ca) ≤ R.cells ∧ sa - s0 + (s2 - sa) ≤ R.slots → va_S (fun q => base ≤ q) s.heap H locs → vx_Run p l e R s m args below meth c H locs (ca - c0) (sa - s0) (c2 - ca) (s2 - sa) (F0 m pc ls (so_ms f st)) (so_ms f t) (so_Qc D cl base scr f (so_hlen h) r1 h2 a) (so_XC D cl base scr f (so_hlen h) r1 h2) (fun q => base ≤ q)) →
              W p l e R s m args below meth c H locs (ca - c0) (sa - s0) (vx_MQ below (so_Qc D cl base scr f0 n0 r h') (so_XC D cl base scr f0 n0 r h') args s (c' - c0) (s' - s0) (fun q => base ≤ q)) (F0 m pc ls (so_ms f st)) := by
            intro as t a d1 c2 s2 r1 h2 cd2 hd1 hcd2 hr1 ht4 hokl hoks hrr hrun
            clear hr
            subst hd1
            obtain ⟨n1, n2, n3, n4⟩ := so_mono n d1 x cd2 0 (so_args as 0) [] h ca sa r1 h2 c2 s2 hrel.1 hr1
            have hle : c2 ≤ c' ∧ s2 ≤ s' := by
              match r1, hrr with
              | .inl v, hrr => exact ⟨(so_mono _ _ _ _ _ _ _ _ _ _ _ _ _ _ n1 hrr).2.1, (so_mono _ _ _ _ _ _ _ _ _ _ _ _ _ _ n1 hrr).2.2.1⟩
              | .inr x2, hrr =>
                dsimp only at hrr
                cases hq : so_hnd (tab k) pc x2 with
                | none =>
                  rw [hq] at hrr
                  dsimp only at hrr
                  cases ht : tab k with
                  | nil => rw [ht] at hrr; cases hrr; exact ⟨Nat.le_refl _, Nat.le_refl _⟩
                  | cons a t => rw [ht] at hrr; cases hrr
                | some q =>
                  rw [hq] at hrr
                  dsimp only at hrr
                  split at hrr
                  · have := so_mono _ _ _ _ _ _ _ _ _ _ _ _ _ _ (so_push_eq (999, 0, 0) h2 n1).1 hrr
                    exact ⟨this.2.1, this.2.2.1⟩
                  · cases hrr
            have e1 : ca - c0 + (c2 - ca) = c2 - c0 := by omega
            have e2 : sa - s0 + (s2 - sa) = s2 - s0 := by omega
            have hfit : ca - c0 + (c2 - ca) ≤ R.cells ∧ sa - s0 + (s2 - sa) ≤ R.slots := by
              rw [e1, e2]
              exact ⟨Nat.le_trans (Nat.sub_le_sub_right hle.1 c0) hRc, Nat.le_trans (Nat.sub_le_sub_right hle.2 s0) hRs⟩
            clear hcall
            refine sc_frame hlocs (fun hS => sc_run (hrun hfit hS) hlocs (fun x2 hx2 hx3 f1 H1 locs1 q9 ce g1 g2 g3 g4 g5 g6 => ?_) (fun v hv f1 H1 locs1 g1 g2 g3 => ?_))
            · subst hx2
              rw [e1, e2]
              dsimp only at hrr
              cases hq : so_hnd (tab k) pc x2 with
              | none =>
                rw [hq] at hrr
                dsimp only at hrr
                cases ht : tab k with
                | cons a t => rw [ht] at hrr; cases hrr
                | nil =>
                  rw [ht] at hrr
                  cases hrr
                  obtain ⟨zs, z1, z2, -⟩ := hokH
                  rw [ht] at z2
                  have z3 : zs = [] := by cases zs with
                    | nil => rfl
                    | cons a t => cases z2
                  rw [z3] at z1
                  refine vx_out (E := so_ex x2) (fun z hz => ?_) hlk g4 g5 g6 (fun t ht hvm => ⟨x2, f1, rfl, hx3, fun z hz => (g1 z (by omega)).trans (hf z hz), rfl, by rw [ht]; exact g2.moved hvm⟩) g3 (Nat.le_refl _) (Nat.le_refl _)
                  rw [htb, z1] at hz
                  cases hz
              | some q =>
                rw [hq] at hrr
                dsimp only at hrr
                split at hrr
                · next hb2 =>
                  obtain ⟨k1, k2⟩ := si_and hb2
                  obtain ⟨zs, z1, z2, z3⟩ := hokH
                  rw [z2] at hq
                  obtain ⟨pre, z, suf, e3, e4, e5, e6, e7, e8⟩ := so_hnd_at zs hq
                  have hz := z3 z (by rw [e3]; exact List.mem_append_right _ List.mem_cons_self)
                  have hq9 : q9 < H1.size := (Array.getElem?_eq_some_iff.mp g4).1
                  have hlt : ∀ i, i < so_hlen h2 → va_up f1 (so_hlen h2) q9 i = f1 i := fun i hi => va_up_ne f1 q9 (by omega)
                  have hW := ih (d1 + 1) k I cd hI hcd p e R s m args below meth c H1 locs1 q ls (va_up f1 (so_hlen h2) q9) lv [4 * so_hlen h2 + 1] (so_push h2 (999, 0, 0)) c2 s2 r h' c' s' c0 s0 f0 n0 hx hb hml hmn hret hlk htb hown hts hwd hRf hRl hRc hRs (by omega) (by omega)
                    (fun z hz => ((hlt z (by omega)).trans (g1 z (by omega))).trans (hf z hz)) (by rw [so_push_len n1]; omega) (g2.caught k1 hq9) ((hlh.ext g1 hokl).ext hlt k2) g3 hrr
                  have e9 : so_ms (va_up f1 (so_hlen h2) q9) [4 * so_hlen h2 + 1] = [.ref q9] := by
                    show [so_vl _ (4 * so_hlen h2 + 1)] = _
                    rw [so_vl_41, va_up_self]
                  rw [e9] at hW
                  refine sx_catch (own := I.1.cls) (name := so_ex z.2) (E := so_ex x2) hown (tableOf (pre.map (fun z => z.1))) ⟨z.1.1, z.1.2.1, z.1.2.2.1, z.1.2.2.2⟩ (tableOf (suf.map (fun z => z.1))) ?_ (fun w hw => ?_) ?_ hz.1 (hts _ hz.2.2) ?_ g4 g5 g6 ?_
                  · rw [htb, z1, e3]
                    simp [tableOf]
                  · unfold tableOf at hw
                    rw [List.mem_map] at hw
                    obtain ⟨w1, hw1, rfl⟩ := hw
                    rw [List.mem_map] at hw1
                    obtain ⟨w2, hw2, rfl⟩ := hw1
                    have hz2 := z3 w2 (by rw [e3]; exact List.mem_append_left _ hw2)
                    rcases e8 w2 hw2 with g | g
                    · refine Or.inl ?_
                      cases hcv : covers ⟨w2.1.1, w2.1.2.1, w2.1.2.2.1, w2.1.2.2.2⟩ pc with
                      | false => rfl
                      | true =>
                        simp only [covers, Bool.and_eq_true, decide_eq_true_eq] at hcv
                        exact (g hcv).elim
                    · exact Or.inr ⟨hz2.1, so_ex w2.2, hts _ hz2.2.2, hwd.2.2.2.2.2.1 x2 w2.2 hx3 hz2.2.1 (fun z => g z.symm)⟩
                  · simp only [covers, Bool.and_eq_true, decide_eq_true_eq]
                    exact ⟨e5, e6⟩
                  · rw [e4]
                    exact hwd.2.2.2.2.2.2 x2 hx3
                  · show W p l e R s m args below meth c H1 locs1 (c2 - c0) (s2 - s0) _ (F0 m z.1.2.2.1 ls [.ref q9])
                    rw [← e7]
                    exact hW
                · cases hrr
            · subst hv
              rw [e1, e2, sc_pv g1 hoks v]
              exact ih (d1 + 1) k I cd hI hcd p e R s m args below meth c H1 locs1 (pc + 3) ls f1 lv (so_pv v t) h2 c2 s2 r h' c' s' c0 s0 f0 n0 hx hb hml hmn hret hlk htb hown hts hwd hRf hRl hRc hRs (by omega) (by omega) (fun z hz => (g1 z (by omega)).trans (hf z hz)) (by omega) g2 (hlh.ext g1 hokl) g3 hrr
          have S : CallFix p m c I.2.1 I.2.2.1 s args Ts I.1.cls := ⟨hx, hb, hml, hown, hts⟩
          have go : ∀ (as t : List Nat), X = .inr (.inl (x, as, lv, t, h, ca, sa)) → so_ct t ≤ 8 → so_okl (so_hlen h) lv = true → so_all (so_okv (so_hlen h)) t = true → so_all so_cat as = true → as.length ≤ J.2.2.1 →
              (∀ (d1 c2 s2 : Nat) (r1 : so_R) (h2 : so_H), d = d1 + 1 → vx_Met l J.1 (so_w0 J :: Ts) (so_rm d1 (c2 - ca) (s2 - sa)) (so_Pc D cl base Bs strs scr f h as) (so_Qc D cl base scr f (so_hlen h) r1 h2) (so_XC D cl base scr f (so_hlen h) r1 h2) (c2 - ca) (s2 - sa) (fun q => base ≤ q) →
                ca - c0 + (c2 - ca) ≤ R.cells ∧ sa - s0 + (s2 - sa) ≤ R.slots → va_S (fun q => base ≤ q) s.heap H locs → vx_Run p l e R s m args below meth c H locs (ca - c0) (sa - s0) (c2 - ca) (s2 - sa) (F0 m pc ls (so_ms f st)) (so_ms f t) (so_Qc D cl base scr f (so_hlen h) r1 h2 (so_ms f as).toArray) (so_XC D cl base scr f (so_hlen h) r1 h2) (fun q => base ≤ q)) →
              W p l e R s m args below meth c H locs (ca - c0) (sa - s0) (vx_MQ below (so_Qc D cl base scr f0 n0 r h') (so_XC D cl base scr f0 n0 r h') args s (c' - c0) (s' - s0) (fun q => base ≤ q)) (F0 m pc ls (so_ms f st)) := by
            intro as t hX ht4 hokl hoks hca hal hrun
            subst hX
            cases d with
            | zero => cases hr
            | succ d1 =>
              dsimp only at hr
              cases hcx : code x with
              | none => rw [hcx] at hr; cases hr
              | some cd2 =>
                rw [hcx] at hr
                dsimp only at hr
                cases hr1 : so_run (so_ops scr) code tab n d1 x cd2 0 (so_args as 0) [] h ca sa with
                | none => rw [hr1] at hr; cases hr
                | some R1 =>
                  obtain ⟨r1, h2, c2, s2⟩ := R1
                  rw [hr1] at hr
                  have hM := so_met (D := D) (base := base) (f := f) hC ih hJ hcx hca hal hr1
                  refine key as t _ d1 c2 s2 r1 h2 cd2 rfl hcx hr1 ht4 hokl hoks ?_ (fun q1 hS => hrun d1 c2 s2 r1 h2 rfl hM q1 hS)
                  match r1, hr with
                  | .inl v, hr => exact hr
                  | .inr x2, hr => exact hr
          rcases hcall with ⟨rfl, hd, hst, hky, hyl⟩ | ⟨rfl, hd, hnh, hrn, hin, hins, hyl, nn, rfl, hky⟩ | ⟨rfl, hd, hnh, hrn, hin, hins, hyl, ⟨host, hho⟩, nn, rfl, hky⟩ | ⟨rfl, hd, hnh, hy9, ⟨q, hq, hqn⟩, hins, hsel, hyl, nn, hnn, hky⟩
          · obtain ⟨as, t, rfl, b1, b2, b3, b4, b5, b6⟩ := si20 (q := pc + len) (x := x) (y := y) (lv := lv) (st := st) (h := h) (c := ca) (s := sa) (Z := X) hY
            refine go as t b6 b3 b4 b5 b2 (by omega) (fun d1 c2 s2 r1 h2 hd1 hM hfit hS => ?_)
            obtain ⟨y1, bytes, maxL, ret, hh⟩ := J
            cases hh with
            | nil => exact sc_S S hG hM hky hst b1 ⟨by omega, by omega⟩ hlh hd b3 hfit hB hrel hwd hS
            | cons a1 a2 => exact sc_SH S hG hM hky hst b1 ⟨by omega, by omega⟩ hlh hd b3 hfit hB hrel hwd hS
          · obtain ⟨b, as, t, rfl, b1, b0, b2, b3, b4, b5, b6⟩ := si21 (q := pc + len) (x := x) (y := nn + 1) (lv := lv) (st := st) (h := h) (c := ca) (s := sa) (Z := X) hY
            refine go (b :: as) t b6 b3 b4 b5 b2 (by omega) (fun d1 c2 s2 r1 h2 hd1 hM hfit hS => ?_)
            obtain ⟨y1, bytes, maxL, ret, hh⟩ := J
            dsimp only at hnh hrn
            subst hnh
            subst hrn
            rw [List.length_cons] at b1
            exact sc_I S hG hM hky hins hin (by omega) b0 ⟨by omega, by omega⟩ hlh hd b3 hfit hB hrel hwd hS
          · obtain ⟨b, as, t, rfl, b1, b0, b2, b3, b4, b5, b6⟩ := si21 (q := pc + len) (x := x) (y := nn + 1) (lv := lv) (st := st) (h := h) (c := ca) (s := sa) (Z := X) hY
            refine go (b :: as) t b6 b3 b4 b5 b2 (by omega) (fun d1 c2 s2 r1 h2 hd1 hM hfit hS => ?_)
            obtain ⟨y1, bytes, maxL, ret, hh⟩ := J
            dsimp only at hnh hrn
            subst hnh
            subst hrn
            rw [List.length_cons] at b1
            exact sc_IN S hG hM hky (hwd.2.1 _ hho) hins hin (by omega) b0 ⟨by omega, by omega⟩ hlh hd b3 hfit hB hrel hwd hS
          · obtain ⟨b, as, t, nf, N, rfl, b1, b0, bg, b2, b3, b4, b5, b6⟩ := si10 (q := pc + len) (x := x) (y := y) (lv := lv) (st := st) (h := h) (c := ca) (s := sa) (Z := X) hY
            refine go (b :: as) t b6 b3 b4 b5 b2 (by omega) (fun d1 c2 s2 r1 h2 hd1 hM hfit hS => ?_)
            obtain ⟨y1, bytes, maxL, ret, hh⟩ := J
            dsimp only at hnh
            subst hnh
            rw [List.length_cons] at b1
            exact sc_V S hG hM hky hins hsel hy9 hq hqn bg (by omega) b0 ⟨by omega, by omega⟩ hlh hd b3 hfit hB hrel hwd hS
end SMR2
