/-! ===== new things, longs compared, the switch, Object's constructor ===== -/
section SMX
variable {p : Program} {l : Launch} {e : Env} {R : Room} {s : State} {m : MethodId} {args : Array Value} {below : List Frame} {meth : Method} {c : Code} {H : Heap} {locs : List Loc} {cells slots : Nat} {Q : State → Prop}
variable {cc : ByteArray} {pc : Nat} {ls : Array Slot} {f : Nat → Nat} {lv : so_L} {st : List Nat} {nL : Nat} {i : Instr} {len x y v a b j r : Nat} {own : String} {Ts : List Cond}
variable {D : va_G} {cl : List vw_C} {base : Nat} {scr : List Nat} {h : so_H}
/-- the words of a new object's class; its fields as they are at first -/
def so_ck13 (Ts : List Cond) (cl : List vw_C) (own : String) (j x len n N : Nat) : Bool := len == 3 && Nat.blt x 999 && match cl[x]? with
  | some q => q.2.2 == n && decide (Cond.classLink own j q.1 ∈ Ts) && decide (Cond.instantiable q.1 q.2.2 ∈ Ts) && decide (Cond.initialized q.1 ∈ Ts) && (List.range n).all (fun k => match parseFieldDescriptor (q.2.1 k).2.2.1 with | some t => decide (so_vl (fun _ => 0) (so_ln 72 N k) = defaultValue t) && so_cat (so_ln 72 N k) && !so_ref (so_ln 72 N k) | none => false)
  | none => false
theorem so_vl_noref {f g : Nat → Nat} {v : Nat} (h : so_ref v = false) : so_vl f v = so_vl g v := by
  have h1 : ¬ v % 4 = 1 := fun z => by
    unfold so_ref at h
    rw [show Nat.mod v 4 = 1 from z] at h
    cases h
  simp only [so_vl, h1, if_false]
theorem sw_new {n N : Nat} (hx : p.tables.exec = Jvm.exec) (hb : c.code = cc) (hown : s.vm.findClass own = some m.cls) (hts : ∀ w ∈ Ts, w.before args s = true) (hK : va_K D cl [] s) (hkl : so_kl Ts cl x) (hk : so_ck13 Ts cl own j x len n N = true) (hd : decode cc pc = .ok (.new j, len))
    (hr : so_rel D cl base scr f h s H) (hl : so_lh f ls nL lv) (hokh : so_okh (so_hlen h) h = true) (hokl : so_okl (so_hlen h) lv = true) (hoks : so_all (so_okv (so_hlen h)) st = true) (hcells : cells + 1 ≤ R.cells) (hslots : slots + n ≤ R.slots)
    (kk : ∀ (f1 : Nat → Nat) (H1 : Heap), (∀ z, z < so_hlen h → f1 z = f z) → so_rel D cl base scr f1 (so_push h (x, n, N)) s H1 → so_lh f1 ls nL lv → W p l e R s m args below meth c H1 locs (cells + 1) (slots + n) Q (F0 m (pc + len) ls (so_ms f1 ((4 * so_hlen h + 1) :: st)))) : W p l e R s m args below meth c H locs cells slots Q (F0 m pc ls (so_ms f st)) := by
  unfold so_ck13 at hk
  simp only [Bool.and_eq_true, beq_iff_eq] at hk
  obtain ⟨⟨rfl, hx9⟩, hk⟩ := hk
  have hx9 := so_blt.mp hx9
  cases hq : cl[x]? with
  | none => rw [hq] at hk; cases hk
  | some q =>
    rw [hq] at hk
    simp only [Bool.and_eq_true, beq_iff_eq, decide_eq_true_eq, List.all_eq_true, List.mem_range] at hk
    obtain ⟨⟨⟨⟨hn, w1⟩, w2⟩, w3⟩, hall⟩ := hk
    obtain ⟨hin, hnm, ty, hty⟩ := hkl q hq
    have hKx := hK.1 x _ hq
    refine W.newc (n := q.2.2) hx hb hown (hts _ w1) (hts _ w2) (hts _ w3) rfl hd hcells (by rw [hn]; exact hslots) (fun cC kC h1 h2 h3 h4 => ?_)
    obtain ⟨hS, hfc, kC', hkC', hkind⟩ := hKx
    have e1 : cC = D.1 x := Option.some.inj (h1.symm.trans hfc)
    subst e1
    have hcell : (H.push { cls := D.1 x, slots := kC.instanceTypes.map defaultValue, vm := .none })[H.size]? = some (blank (D.1 x) kC) := by
      rw [Array.getElem?_push_size]; rfl
    have hborn := u_born (o := H.size) ty hts hin ⟨hS, hfc, kC', hkC', hkind⟩ h2 hcell hty
    have hfg : ∀ z, z < so_hlen h → va_up f (so_hlen h) H.size z = f z := fun z hz => va_up_ne f H.size (by omega)
    have hrel : so_rel D cl base scr (va_up f (so_hlen h) H.size) (so_push h (x, n, N)) s (H.push { cls := D.1 x, slots := kC.instanceTypes.map defaultValue, vm := .none }) := by
      refine hr.push hokh (fun _ => Nat.le_refl _) (by simp) (by simp) (fun z hz => ?_) ?_ (by show x ≠ 1002; omega)
      · rw [Array.getElem?_push_lt hz, Array.getElem?_eq_getElem hz]
      · refine ⟨fun _ => ⟨q, hq, hn, hborn.to (fun k hk => ?_)⟩, fun z => by have : x = 1003 := z; omega, fun z => by have : x = 1000 := z; omega⟩
        have h9 := hall k (by omega)
        rw [hty k hk] at h9
        simp only [Bool.and_eq_true, decide_eq_true_eq, Bool.not_eq_true'] at h9
        rw [← h9.1.1]
        exact so_vl_noref h9.2
    have := kk _ _ hfg hrel (hl.ext hfg hokl)
    rw [show so_ms (va_up f (so_hlen h) H.size) ((4 * so_hlen h + 1) :: st) = .ref H.size :: so_ms f st by
      show so_vl _ (4 * so_hlen h + 1) :: so_ms _ st = _
      rw [so_vl_41, va_up_self, so_ms_ext hfg hoks]] at this
    rw [hn]
    exact this
theorem sw_lcmp (hx : p.tables.exec = Jvm.exec) (hb : c.code = cc) (hd : decode cc pc = .ok (.lcmp, 1)) (ha : a % 4 = 3) (hb' : b % 4 = 3) (ha2 : a < 2 ^ 66) (hb2 : b < 2 ^ 66)
    (kk : W p l e R s m args below meth c H locs cells slots Q (F0 m (pc + 1) ls (so_ms f ((so_if (Nat.beq a b) 0 (so_if (Nat.blt (so_big (a / 4)) (so_big (b / 4))) 17179869180 4)) :: st)))) : W p l e R s m args below meth c H locs cells slots Q (F0 m pc ls (so_ms f (b :: a :: st))) := by
  show W p l e R s m args below meth c H locs cells slots Q (F0 m pc ls (so_vl f b :: so_vl f a :: so_ms f st))
  rw [so_vl_long ha, so_vl_long hb']
  have ti : ∀ n : Nat, (Int64.ofNat n).toInt = (so_big n : Int) - 9223372036854775808 := by
    intro n
    show (BitVec.ofNat 64 n).toInt = (((n + 9223372036854775808) % 18446744073709551616 : Nat) : Int) - 9223372036854775808
    rw [BitVec.toInt_eq_toNat_cond]
    simp only [BitVec.toNat_ofNat]
    split <;> omega
  refine W.lcmp hx hb hd ?_
  have e9 : so_vl f (so_if (Nat.beq a b) 0 (so_if (Nat.blt (so_big (a / 4)) (so_big (b / 4))) 17179869180 4)) = .int (lg_cmp (Int64.ofNat (a / 4)) (Int64.ofNat (b / 4))) := by
    cases h1 : Nat.beq a b with
    | true =>
      have := Nat.eq_of_beq_eq_true h1
      subst this
      show so_vl f 0 = _
      simp [lg_cmp, so_vl]
    | false =>
      have hne : a ≠ b := fun z => by rw [z, Nat.beq_refl] at h1; cases h1
      have hne2 : so_big (a / 4) ≠ so_big (b / 4) := by
        show (a / 4 + 9223372036854775808) % 18446744073709551616 ≠ (b / 4 + 9223372036854775808) % 18446744073709551616
        omega
      cases h2 : Nat.blt (so_big (a / 4)) (so_big (b / 4)) with
      | true =>
        have h2 := so_blt.mp h2
        show so_vl f 17179869180 = _
        have g1 : ¬ Int64.ofNat (b / 4) < Int64.ofNat (a / 4) := by rw [Int64.lt_iff_toInt_lt, ti, ti]; omega
        have g2 : ¬ Int64.ofNat (a / 4) = Int64.ofNat (b / 4) := fun z => hne2 (by have := congrArg Int64.toInt z; rw [ti, ti] at this; omega)
        simp [lg_cmp, g1, g2, so_vl]
      | false =>
        have h2 : ¬ so_big (a / 4) < so_big (b / 4) := fun z => by rw [so_blt.mpr z] at h2; cases h2
        show so_vl f 4 = _
        have g1 : Int64.ofNat (b / 4) < Int64.ofNat (a / 4) := by rw [Int64.lt_iff_toInt_lt, ti, ti]; omega
        simp [lg_cmp, g1, so_vl]
  rw [← e9]
  exact kk
/-- the switch's targets -/
def so_ck28 (i : Instr) (pc : Nat) (sw : Nat → Nat) : Bool := match i with
  | .tableswitch dflt lo hi offs => decide (lo = 0) && decide (hi = (offs.size : Int) - 1) && decide (offs.size < 1000) && decide ((pc : Int) + dflt = (sw 4294967295 : Int)) && (List.range offs.size).all (fun k => match offs[k]? with | some off => decide ((pc : Int) + off = (sw k : Int)) | none => false)
  | _ => false
theorem sw_switch {sw : Nat → Nat} (hsw : ∀ k, 29 ≤ k → sw k = sw 4294967295) (hx : p.tables.exec = Jvm.exec) (hb : c.code = cc) (hk : so_ck28 i pc sw = true) (h29 : ∀ dflt lo hi offs, i = .tableswitch dflt lo hi offs → offs.size = 29) (hd : decode cc pc = .ok (i, len)) (hv : so_int v = true) (hv2 : v / 4 < 2 ^ 32)
    (kk : W p l e R s m args below meth c H locs cells slots Q (F0 m (sw (v / 4)) ls (so_ms f st))) : W p l e R s m args below meth c H locs cells slots Q (F0 m pc ls (so_ms f (v :: st))) := by
  show W p l e R s m args below meth c H locs cells slots Q (F0 m pc ls (so_vl f v :: so_ms f st))
  rw [so_vl_int hv]
  unfold so_ck28 at hk
  split at hk
  · next dflt lo hi offs =>
    simp only [Bool.and_eq_true, decide_eq_true_eq, List.all_eq_true, List.mem_range] at hk
    obtain ⟨⟨⟨⟨rfl, rfl⟩, hsz⟩, hdf⟩, hall⟩ := hk
    have h29 := h29 _ _ _ _ rfl
    have hti := so_sgt (v / 4)
    have hsg : so_sg (v / 4) = (v / 4 + 2147483648) % 4294967296 := rfl
    by_cases hlt : v / 4 < 29
    · have h9 := hall (v / 4) (by omega)
      cases ho : offs[v / 4]? with
      | none => rw [ho] at h9; cases h9
      | some off =>
        rw [ho] at h9
        have e1 : ((Int32.ofNat (v / 4)).toInt - 0).toNat = v / 4 := by omega
        exact lv_tableIn hx hb hd (by omega) (by omega) (by rw [e1]; exact ho) (of_decide_eq_true h9) kk
    · rw [hsw _ (by omega)] at kk
      exact lv_tableOut hx hb hd (by omega) hdf kk
  · cases hk
theorem sw_obj (hx : p.tables.exec = Jvm.exec) (hb : c.code = cc) (hown : s.vm.findClass own = some m.cls) (hts : ∀ w ∈ Ts, w.before args s = true) (hml : c.maxLocals = nL) (hl : so_lh f ls nL lv)
    (w1 : Cond.methodLink own j objectInit ∈ Ts) (w2 : Cond.instanceMethod objectInit ∈ Ts) (w3 : Cond.code objectInit ⟨#[0xb1]⟩ 1 none ∈ Ts) (hd : decode cc pc = .ok (.invokespecial j, 3)) (hrf : so_ref r = true) (hf1 : 1 ≤ R.frames) (hf2 : ((so_ms f st).map fun v => v.category).sum + 12 ≤ R.locals)
    (kk : W p l e R s m args below meth c H locs cells slots Q (F0 m (pc + 3) ls (so_ms f st))) : W p l e R s m args below meth c H locs cells slots Q (F0 m pc ls (so_ms f (r :: st))) := by
  show W p l e R s m args below meth c H locs cells slots Q (F0 m pc ls (so_vl f r :: so_ms f st))
  rw [so_vl_ref hrf]
  refine W.objInit hx hb hown (hts _ w1) (hts _ w2) (hts _ w3) rfl (by rw [hml]; exact hl.1) rfl hd hf1 (by show 2 * 0 + _ + 12 ≤ _; omega) ?_
  exact kk
/-- a new row of kind x -/
def so_ck14 (Ts : List Cond) (i : Instr) (x len : Nat) : Bool := len == 2 && match i with
  | .newarray t => (match t with
    | .int => x == 1003
    | .long => x == 1000
    | .boolean => x == 1001
    | _ => false) && decide (Cond.arrayClass (newarray.typeOf t) ∈ Ts)
  | _ => false
theorem so_ln_0 (w j : Nat) : so_ln w 0 j = 0 := by
  rw [so_ln_hi]
  simp
theorem sw_newa (hx : p.tables.exec = Jvm.exec) (hb : c.code = cc) (hts : ∀ w ∈ Ts, w.before args s = true) (hk : so_ck14 Ts i x len = true) (hd : decode cc pc = .ok (i, len)) (hv : so_int v = true) (hv2 : v / 4 < 1000000) (hv3 : x = 1000 → v = 4)
    (hr : so_rel D cl base scr f h s H) (hl : so_lh f ls nL lv) (hokh : so_okh (so_hlen h) h = true) (hokl : so_okl (so_hlen h) lv = true) (hoks : so_all (so_okv (so_hlen h)) st = true) (hcells : cells + 1 ≤ R.cells) (hslots : slots + v / 4 ≤ R.slots)
    (kk : ∀ (f1 : Nat → Nat) (H1 : Heap), (∀ z, z < so_hlen h → f1 z = f z) → so_rel D cl base scr f1 (so_push h (x, v / 4, so_if (Nat.beq x 1000) 55340232221128654848 0)) s H1 → so_lh f1 ls nL lv → W p l e R s m args below meth c H1 locs (cells + 1) (slots + v / 4) Q (F0 m (pc + len) ls (so_ms f1 ((4 * so_hlen h + 1) :: st)))) : W p l e R s m args below meth c H locs cells slots Q (F0 m pc ls (so_ms f (v :: st))) := by
  show W p l e R s m args below meth c H locs cells slots Q (F0 m pc ls (so_vl f v :: so_ms f st))
  rw [so_vl_int hv]
  unfold so_ck14 at hk
  rw [Bool.and_eq_true, beq_iff_eq] at hk
  obtain ⟨rfl, hk⟩ := hk
  split at hk
  · next t =>
    rw [Bool.and_eq_true, decide_eq_true_eq] at hk
    obtain ⟨hk, hw⟩ := hk
    have hcl : (Int32.ofNat (v / 4)).toNatClampNeg = v / 4 := nI_clamp (by omega)
    have hneg : ¬ Int32.ofNat (v / 4) < 0 := nI_pos (by omega)
    have hbytes : (Int32.ofNat (v / 4)).toNatClampNeg * componentBytes (newarray.typeOf t) ≤ 536870912 := by
      rw [hcl]
      cases t <;> simp [newarray.typeOf, componentBytes] <;> omega
    refine W.newa hx hb (hts _ hw) rfl hd rfl hneg hbytes hcells (by rw [hcl]; exact hslots) (fun cA kA comp h1 h2 h3 => ?_)
    rw [hcl]
    have hfg : ∀ z, z < so_hlen h → va_up f (so_hlen h) H.size z = f z := fun z hz => va_up_ne f H.size (by omega)
    have hcell : (H.push { cls := cA, slots := Array.replicate (v / 4) (defaultValue (newarray.typeOf t)), vm := .none })[H.size]? = some { cls := cA, slots := Array.replicate (v / 4) (defaultValue (newarray.typeOf t)), vm := .none } := by
      rw [Array.getElem?_push_size]
    have harr : s.isArrayOf { cls := cA, slots := Array.replicate (v / 4) (defaultValue (newarray.typeOf t)), vm := .none } (newarray.typeOf t) := ⟨(fun k z => by cases z), kA, h2, comp, h3⟩
    have hrel : so_rel D cl base scr (va_up f (so_hlen h) H.size) (so_push h (x, v / 4, so_if (Nat.beq x 1000) 55340232221128654848 0)) s (H.push { cls := cA, slots := Array.replicate (v / 4) (defaultValue (newarray.typeOf t)), vm := .none }) := by
      refine hr.push hokh (fun _ => Nat.le_refl _) (by simp) (by simp) (fun z hz => ?_) ?_ ?_
      · rw [Array.getElem?_push_lt hz, Array.getElem?_eq_getElem hz]
      · cases t <;> (first | (cases hk; done) | skip)
        all_goals (simp only [beq_iff_eq] at hk; subst hk)
        all_goals (first | (refine ⟨fun z => absurd (show (1001 : Nat) < 999 from z) (by decide), fun z => absurd (show (1001 : Nat) = 1003 from z) (by decide), fun z => absurd (show (1001 : Nat) = 1000 from z) (by decide)⟩; done) | skip)
        · refine ⟨fun z => absurd (show (1003 : Nat) < 999 from z) (by decide), fun _ => ⟨_, hcell, harr, rfl, by simp, show v / 4 < 2 ^ 31 by omega, fun j hj => ?_⟩, fun z => absurd (show (1003 : Nat) = 1000 from z) (by decide)⟩
          have hj : j < v / 4 := hj
          show (Array.replicate (v / 4) (defaultValue (newarray.typeOf .int)))[j]? = some (.int (Int32.ofNat (so_ln 32 0 j)))
          rw [so_ln_0, Array.getElem?_replicate, if_pos hj]
          rfl
        · have hv4 : v = 4 := hv3 rfl
          subst hv4
          refine ⟨fun z => absurd (show (1000 : Nat) < 999 from z) (by decide), fun z => absurd (show (1000 : Nat) = 1003 from z) (by decide), fun _ => ⟨_, hcell, harr, rfl, by simp, show (4 : Nat) / 4 < 2 ^ 31 by decide, fun j hj => ?_⟩⟩
          have hj : j < 4 / 4 := hj
          have hj0 : j = 0 := by omega
          subst hj0
          exact ⟨by decide +kernel, by rfl⟩
      · show x ≠ 1002
        intro hx2
        subst hx2
        cases t <;> cases hk
    have := kk _ _ hfg hrel (hl.ext hfg hokl)
    rw [show so_ms (va_up f (so_hlen h) H.size) ((4 * so_hlen h + 1) :: st) = .ref H.size :: so_ms f st by
      show so_vl _ (4 * so_hlen h + 1) :: so_ms _ st = _
      rw [so_vl_41, va_up_self, so_ms_ext hfg hoks]] at this
    exact this
  · cases hk
end SMX
