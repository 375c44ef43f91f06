/-! ===== fields, rows, new things ===== -/
section SMU
variable {p : Program} {l : Launch} {e : Env} {R : Room} {s : State} {m : MethodId} {args : Array Value} {below : List Frame} {meth : Method} {c : Code} {H : Heap} {locs : List Loc} {cells slots : Nat} {Q : State → Prop}
variable {cc : ByteArray} {pc : Nat} {ls : Array Slot} {f : Nat → Nat} {lv : so_L} {st : List Nat} {nL : Nat} {i : Instr} {len x y v a b j r : Nat} {own : String} {Ts : List Cond}
variable {D : va_G} {cl : List vw_C} {base : Nat} {scr : List Nat} {h : so_H}
theorem so_at_rel {h : so_H} {U : State} {o : so_O} (hr : so_rel D cl base scr f h U H) (hg : so_get h a = some o) : h.flatten[a]? = some o := by rw [← so_get_eq h hr.1]; exact hg
/-- what the tables say of class number x: its words are among Ts; its fields' names differ; their types -/
def so_kl (Ts : List Cond) (cl : List vw_C) (x : Nat) : Prop := ∀ q : vw_C, cl[x]? = some q → (∀ w ∈ u_ws q.1 q.2.1 q.2.2, w ∈ Ts) ∧ (∀ a, a < q.2.2 → ∀ b, b < q.2.2 → a ≠ b → (q.2.1 a).2.1 ≠ (q.2.1 b).2.1) ∧ ∃ ty : Nat → FieldType, ∀ k, k < q.2.2 → parseFieldDescriptor (q.2.1 k).2.2.1 = some (ty k)
/-- a field's link: class x, field y -/
def so_ck6 (Ts : List Cond) (cl : List vw_C) (own : String) (j x y len : Nat) : Bool := len == 3 && Nat.blt x 999 && match cl[x]? with
  | some q => Nat.blt y q.2.2 && decide (Cond.fieldLink own j (q.2.1 y).1 (q.2.1 y).2.1 (q.2.1 y).2.2.1 ∈ Ts)
  | none => false
theorem sw_get (hx : p.tables.exec = Jvm.exec) (hb : c.code = cc) (hown : s.vm.findClass own = some m.cls) (hts : ∀ w ∈ Ts, w.before args s = true) (hK : va_K D cl [] s) (hkl : so_kl Ts cl x) (hk : so_ck6 Ts cl own j x y len = true) (hd : decode cc pc = .ok (.getfield j, len))
    (hr : so_rel D cl base scr f h s H) (hrf : so_ref r = true) {n N : Nat} (hg : so_get h (r / 4) = some (x, n, N))
    (kk : W p l e R s m args below meth c H locs cells slots Q (F0 m (pc + len) ls (so_ms f (so_ln 72 N y :: st)))) : W p l e R s m args below meth c H locs cells slots Q (F0 m pc ls (so_ms f (r :: st))) := by
  show W p l e R s m args below meth c H locs cells slots Q (F0 m pc ls (so_vl f r :: so_ms f st))
  rw [so_vl_ref hrf]
  unfold so_ck6 at hk
  simp only [Bool.and_eq_true, beq_iff_eq] at hk
  obtain ⟨⟨rfl, hx9⟩, hk⟩ := hk
  have hx9 := so_blt.mp hx9
  obtain ⟨hob, -, -⟩ := hr.2.1 _ _ (so_at_rel hr hg)
  obtain ⟨q, hq, hqn, cell, q1, q2, q3, q4⟩ := hob.1 hx9
  have hq : cl[x]? = some q := hq
  rw [hq] at hk
  simp only [Bool.and_eq_true, decide_eq_true_eq] at hk
  obtain ⟨hy, hlk⟩ := hk
  have hy := so_blt.mp hy
  obtain ⟨hin, hnm, ty, hty⟩ := hkl q hq
  obtain ⟨hS, hfc, kC, hkC, hkind⟩ := hK.1 x _ hq
  obtain ⟨cf, kf, fi, fd, hi, hsl⟩ := hS y hy
  refine W.getf hx hb hown (hts _ hlk) hi (u_facts hfc hkC (u_lays hts hin hy) hi).1 q1 (by rw [q3]; exact fun z => by cases z) (v := so_vl f (so_ln 72 N y)) ?_ rfl rfl hd kk
  rw [hsl]
  exact q4 y hy
/-- may the field y of class x be written by this method -/
def so_ck7 (Ts : List Cond) (cl : List vw_C) (own : String) (mn : String) (j x y len : Nat) (ty : FieldType → Bool) : Bool := so_ck6 Ts cl own j x y len && match cl[x]? with
  | some q => (!(q.2.1 y).2.2.2 || (decide (q.1 = own ∧ (q.2.1 y).1 = q.1) && mn == "<init>")) && (match parseFieldDescriptor (q.2.1 y).2.2.1 with | some t => ty t | none => false)
  | none => false
theorem sw_put {ty : FieldType → Bool} (hx : p.tables.exec = Jvm.exec) (hb : c.code = cc) (hown : s.vm.findClass own = some m.cls) (hts : ∀ w ∈ Ts, w.before args s = true) (hK : va_K D cl [] s) (hkl : so_kl Ts cl x) (hk : so_ck7 Ts cl own meth.name j x y len ty = true) (hd : decode cc pc = .ok (.putfield j, len))
    (hr : so_rel D cl base scr f h s H) (hrf : so_ref r = true) {n N : Nat} (hg : so_get h (r / 4) = some (x, n, N)) (hfit : ∀ t, ty t = true → narrow t (so_vl f v) = so_vl f v ∧ fits t (so_vl f v) = true) (hv : v < 2 ^ 72)
    (kk : ∀ (H1 : Heap) (k : Nat), so_rel D cl base scr f (so_upd h (r / 4) (x, n, so_up 72 N y v)) s H1 → base ≤ f (r / 4) → W p l e R s m args below meth c H1 (locs ++ [⟨f (r / 4), k⟩]) cells slots Q (F0 m (pc + len) ls (so_ms f st))) : W p l e R s m args below meth c H locs cells slots Q (F0 m pc ls (so_ms f (v :: r :: st))) := by
  show W p l e R s m args below meth c H locs cells slots Q (F0 m pc ls (so_vl f v :: so_vl f r :: so_ms f st))
  rw [so_vl_ref hrf]
  unfold so_ck7 at hk
  rw [Bool.and_eq_true] at hk
  obtain ⟨hk, hk2⟩ := hk
  unfold so_ck6 at hk
  simp only [Bool.and_eq_true, beq_iff_eq] at hk
  obtain ⟨⟨rfl, hx9⟩, hk⟩ := hk
  have hx9 := so_blt.mp hx9
  have hfl := so_at_rel hr hg
  obtain ⟨hob, hlt, -⟩ := hr.2.1 _ _ hfl
  obtain ⟨q, hq, hqn, cell, q1, q2, q3, q4⟩ := hob.1 hx9
  have hq : cl[x]? = some q := hq
  rw [hq] at hk hk2
  simp only [Bool.and_eq_true, decide_eq_true_eq] at hk
  obtain ⟨hy, hlk⟩ := hk
  have hy := so_blt.mp hy
  obtain ⟨hin, hnm, ty0, hty⟩ := hkl q hq
  have hap := va_apart (own := own) (ci := x) hts hin ty0 hty hnm hK hq
  obtain ⟨hS, hfc, kC, hkC, hkind⟩ := hK.1 x _ hq
  obtain ⟨cf, kf, fi, fd, hi, hsl⟩ := hS y hy
  dsimp only at hk2
  rw [Bool.and_eq_true] at hk2
  obtain ⟨hfinal, hk2⟩ := hk2
  rw [hty y hy] at hk2
  obtain ⟨hnar, hft⟩ := hfit _ hk2
  obtain ⟨g1, g2⟩ := u_fits hfc hkC hkind (u_lays hts hin hy) hi (hty y hy) hnar hft
  have hsl9 : fd.slot < cell.slots.size := by
    have := q4 y hy
    rw [hsl]
    exact (Array.getElem?_eq_some_iff.mp this).1
  have hfin9 : hasFlag fd.accessFlags Acc.final = false ∨ (m.cls = cf ∧ meth.name = "<init>") := by
    rw [Bool.or_eq_true, Bool.not_eq_true', Bool.and_eq_true, decide_eq_true_eq, beq_iff_eq] at hfinal
    have hw := hts _ (hin _ (u_in_lay hy))
    unfold u_lay at hw
    cases hf9 : (q.2.1 y).2.2.2 with
    | false =>
      rw [hf9, if_neg (by decide)] at hw
      exact Or.inl (u_store hfc hkC hkind hw hi (hty y hy) hnar hft).1
    | true =>
      rcases hfinal with z | ⟨z1, z2⟩
      · rw [hf9] at z; cases z
      · rw [hf9, if_pos rfl] at hw
        refine Or.inr ⟨?_, z2⟩
        rw [z1.2] at hw hi
        exact laid_decl (by rw [z1.1]; exact hown) hw hi
  refine W.putf hx hb hown (hts _ hlk) hi (u_facts hfc hkC (u_lays hts hin hy) hi).1 hfin9 q1 (by rw [q3]; exact fun z => by cases z) hsl9 g1 (by rw [q2, q3]; exact g2) rfl rfl hd ?_
  have hH1 : (H.setIfInBounds (f (r / 4)) (cell.setSlot fd.slot (so_vl f v)))[f (r / 4)]? = some (cell.setSlot fd.slot (so_vl f v)) := by
    rw [Array.getElem?_setIfInBounds_self_of_lt hlt]
  have hne : ∀ z, z ≠ f (r / 4) → (H.setIfInBounds (f (r / 4)) (cell.setSlot fd.slot (so_vl f v)))[z]? = H[z]? := fun z hz => Array.getElem?_setIfInBounds_ne (Ne.symm hz)
  have hob1 : so_ob D cl s f (x, n, so_up 72 N y v) (f (r / 4)) (H.setIfInBounds (f (r / 4)) (cell.setSlot fd.slot (so_vl f v))) := by
    refine ⟨fun _ => ⟨q, hq, hqn, _, hH1, q2, q3, fun k hk9 => ?_⟩, fun z => by have : x = 1003 := z; omega, fun z => by have : x = 1000 := z; omega⟩
    show (cell.setSlot fd.slot (so_vl f v)).slots[D.2 x k]? = some (so_vl f (so_ln 72 (so_up 72 N y v) k))
    rw [so_ln_up (by decide) hv, hsl]
    have h9 := t_set q4 (fun a b ha hb hab => hap a b ha hb hab) hy (so_vl f v) k hk9
    rw [h9]
    by_cases hky : k = y
    · subst hky; simp [updV]
    · simp [updV, hky]
  obtain ⟨hr1, hbase⟩ := hr.set hfl (by show x ≠ 1002; omega) (by show x ≠ 999; omega) (by simp) hne hob1
  exact kk _ fd.slot hr1 hbase
end SMU
