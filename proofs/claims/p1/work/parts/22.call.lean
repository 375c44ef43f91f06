/-! ===== a call's two ends, in the caller ===== -/
section SMF
variable {p : Program} {l : Launch} {e : Env} {R : Room} {s : State} {m : MethodId} {args : Array Value} {below : List Frame} {meth : Method} {c : Code} {H : Heap} {locs : List Loc} {cells slots mc ms : Nat} {Q : State → Prop}
variable {pc : Nat} {ls : Array Slot} {f : Nat → Nat} {lv : so_L} {st : List Nat} {nL n0 : Nat} {a : Array Value} {st0 rest : List Value}
variable {D : va_G} {cl : List vw_C} {base : Nat} {scr : List Nat} {h h' : so_H} {r : so_R}
theorem sc_run (hr : vx_Run p l e R s m args below meth c H locs cells slots mc ms (F0 m pc ls st0) rest (so_Qc D cl base scr f n0 r h' a) (so_XC D cl base scr f n0 r h') (fun q => base ≤ q)) (hlocs : ∀ q ∈ locs, base ≤ q.base)
    (kx : ∀ x, r = .inr x → x < 3 → ∀ (f1 : Nat → Nat) (H1 : Heap) (locs1 : List Loc) (q9 : Addr) (ce : Cell), (∀ z, z < n0 → f1 z = f z) → so_rel D cl base scr f1 h' s H1 → (∀ q ∈ locs1, base ≤ q.base) → H1[q9]? = some ce → ce.vm = .none → s.vm.findClass (so_ex x) = some ce.cls → vx_W p l e R s m args below meth c H1 locs1 (cells + mc) (slots + ms) Q (F0 m pc ls rest) q9)
    (kk : ∀ v, r = .inl v → ∀ (f1 : Nat → Nat) (H1 : Heap) (locs1 : List Loc), (∀ z, z < n0 → f1 z = f z) → so_rel D cl base scr f1 h' s H1 → (∀ q ∈ locs1, base ≤ q.base) → W p l e R s m args below meth c H1 locs1 (cells + mc) (slots + ms) Q (F0 m (pc + 3) ls ((v.map (so_vl f1)).toList ++ rest))) : W p l e R s m args below meth c H locs cells slots Q (F0 m pc ls st0) := by
  have hL9 : ∀ L : List Loc, (∀ q ∈ L, base ≤ q.base) → ∀ q ∈ locs ++ L, base ≤ q.base := by
    intro L hL q hq
    rcases List.mem_append.mp hq with z | z
    · exact hlocs q z
    · exact hL q z
  intro T hT X
  rcases hr T hT X with ⟨v, st₀, t, T', L, h0, X', hL, e1, e2, ⟨w, f1, hw, hf1, ho, hrel⟩, st⟩ | ⟨q, st₀, t, T', L, E, ce, h0, X', hL, e1, e2, ⟨x, f1, hx, hx3, hf1, hE, hrel⟩, hce, hcv, hcl, st⟩
  · have ha : t.vm.Alike s.vm := by rw [← e2]; exact X'.warmed.alike.symm
    have ho : v = w.map (so_vl f1) := by injection ho
    subst ho
    obtain ⟨t2, a1, b1⟩ := kk w hw f1 T'.heap (locs ++ L) hf1 (by rw [e1]; exact hrel.moved ha) (hL9 L hL) T' rfl X'
    exact ⟨t2, st t2 a1, b1⟩
  · have ha : t.vm.Alike s.vm := by rw [← e2]; exact X'.warmed.alike.symm
    subst hE
    obtain ⟨t2, a1, b1⟩ := kx x hx hx3 f1 T'.heap (locs ++ L) q ce hf1 (by rw [e1]; exact hrel.moved ha) (hL9 L hL) (by rw [e1]; exact hce) hcv hcl T' rfl X'
    exact ⟨t2, st.trans a1, b1⟩
/-- a value on top of what the caller kept -/
theorem sc_pv {f1 : Nat → Nat} (hfg : ∀ z, z < so_hlen h → f1 z = f z) (hoks : so_all (so_okv (so_hlen h)) st = true) (v : Option Nat) : (v.map (so_vl f1)).toList ++ so_ms f st = so_ms f1 (so_pv v st) := by
  cases v with
  | none =>
    show so_ms f st = so_ms f1 st
    exact (so_ms_ext hfg hoks).symm
  | some v =>
    show so_vl f1 v :: so_ms f st = so_vl f1 v :: so_ms f1 st
    rw [so_ms_ext hfg hoks]
/-- an exception that was caught is a thing too -/
theorem so_rel.caught {U : State} {q : Nat} (hr : so_rel D cl base scr f h U H) (hok : so_okh (so_hlen h) h = true) (hq : q < H.size) : so_rel D cl base scr (va_up f (so_hlen h) q) (so_push h (999, 0, 0)) U H :=
  hr.push hok (fun z => absurd rfl z) hq (Nat.le_refl _) (fun _ _ => rfl) ⟨fun z => absurd (show (999 : Nat) < 999 from z) (by decide), fun z => absurd (show (999 : Nat) = 1003 from z) (by decide), fun z => absurd (show (999 : Nat) = 1000 from z) (by decide)⟩ (show (999 : Nat) ≠ 1002 by decide)
end SMF
