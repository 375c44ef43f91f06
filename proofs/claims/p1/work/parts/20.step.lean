/-! ===== one instruction that goes on within its method ===== -/
section SMP
def so_fI (t : FieldType) : Bool := match t with | .int => true | _ => false
def so_fZ (t : FieldType) : Bool := match t with | .boolean => true | _ => false
def so_fA (t : FieldType) : Bool := match t with | .object _ => true | .array _ => true | _ => false
def so_ckp (Ts : List Cond) (cl : List vw_C) (own mn : String) (i : Instr) (x y len : Nat) (ty : FieldType → Bool) : Bool := match i with
  | .putfield j => so_ck7 Ts cl own mn j x y len ty
  | _ => false
def so_ckg (Ts : List Cond) (cl : List vw_C) (own : String) (i : Instr) (x y len : Nat) : Bool := match i with
  | .getfield j => so_ck6 Ts cl own j x y len
  | _ => false
noncomputable def so_ckn (Ts : List Cond) (cl : List vw_C) (own : String) (i : Instr) (x len : Nat) : Bool := match i with
  | .new j => so_ck13 Ts cl own j x len (so_cls x).1 (so_cls x).2
  | _ => false
def so_ck8 (i : Instr) (x y len : Nat) : Bool := len == 1 && match i with
  | .iaload => x == 1003 && y == 32
  | .laload => x == 1000 && y == 72
  | _ => false
/-- instructions without numbers -/
def so_ckm (i : Instr) (o x len : Nat) : Bool := len == 1 && match i with
  | .iastore => o == 9
  | .lastore => o == 23 && x == 1000
  | .dup => o == 16
  | .pop => o == 17
  | .i2l => o == 19
  | .lcmp => o == 22
  | .arraylength => o == 27
  | _ => false
def so_ck57 (Ts : List Cond) (own : String) (i : Instr) (len : Nat) : Bool := len == 3 && match i with
  | .invokespecial j => decide (Cond.methodLink own j objectInit ∈ Ts) && decide (Cond.instanceMethod objectInit ∈ Ts) && decide (Cond.code objectInit ⟨#[0xb1]⟩ 1 none ∈ Ts)
  | _ => false
def so_ck30 (Ts : List Cond) (own : String) (i : Instr) (len : Nat) : Bool := len == 3 && match i with
  | .invokestatic j => decide (Cond.methodLink own j arraycopyName ∈ Ts) && decide (Cond.native arraycopyName ∈ Ts) && decide (Cond.static arraycopyName ∈ Ts) && decide (Cond.initialized "java/lang/System" ∈ Ts)
  | _ => false
def so_ckmx (Ts : List Cond) (own : String) (i : Instr) (len : Nat) (y : MethodName) (cc : ByteArray) : Bool := len == 3 && match i with
  | .invokestatic j => decide (Cond.methodLink own j y ∈ Ts) && decide (Cond.static y ∈ Ts) && decide (Cond.initialized "java/lang/Math" ∈ Ts) && decide (Cond.code y cc 2 (some .int) ∈ Ts)
  | _ => false
noncomputable def so_ck28b (i : Instr) (pc : Nat) : Bool := so_ck28 i pc so_sw && match i with
  | .tableswitch _ _ _ offs => offs.size == 29
  | _ => false
noncomputable def so_chkA (Ts : List Cond) (cl : List vw_C) (own mn : String) (nL pc : Nat) (i : Instr) (o x y len : Nat) : Bool :=
  if o = 0 then so_ck0 i x len else if o = 51 then so_ck51 i x len else if o = 1 then so_ck1 i x len nL else if o = 52 then so_ck52 i x len nL else if o = 2 then so_ck2 Ts own i x len else
  if o = 3 then so_ck3 i pc x y len else if o = 4 then so_ck4 i pc x y len else if o = 5 then so_ck5 i pc y && len == 3 else if o = 6 then so_ckg Ts cl own i x y len else
  if o = 7 then so_ckp Ts cl own mn i x y len so_fI else if o = 54 then so_ckp Ts cl own mn i x y len so_fZ else if o = 55 then so_ckp Ts cl own mn i x y len so_fA else if o = 8 then so_ck8 i x y len else
  if o = 13 then so_ckn Ts cl own i x len else if o = 14 then so_ck14 Ts i x len else if o = 57 then so_ck57 Ts own i len else if o = 18 then so_ck18 i x y len nL else if o = 28 then so_ck28b i pc else if o = 30 then so_ck30 Ts own i len else
  if o = 58 then so_ckmx Ts own i len Lib.Math.max.name Lib.Math.max.code else if o = 59 then so_ckmx Ts own i len Lib.Math.min.name Lib.Math.min.code else
  if o = 9 ∨ o = 23 ∨ o = 16 ∨ o = 17 ∨ o = 19 ∨ o = 22 ∨ o = 27 then so_ckm i o x len else so_ck32 i o len
theorem so_push_len {h : so_H} (hs : so_sh h) (o : so_O) : so_hlen (so_push h o) = so_hlen h + 1 := by
  rw [so_hlen_eq, so_hlen_eq, (so_push_eq o h hs).2, List.length_append, List.length_singleton]
theorem so_upd_len {h : so_H} (hs : so_sh h) (a : Nat) (o : so_O) : so_hlen (so_upd h a o) = so_hlen h := by
  rw [so_hlen_eq, so_hlen_eq, (so_upd_eq h hs a o).2, List.length_set]
theorem so_cats (f : Nat → Nat) (st : List Nat) : ((so_ms f st).map fun v => v.category).sum ≤ 2 * st.length := by
  induction st with
  | nil => exact Nat.le_refl _
  | cons a t ih =>
    show (so_vl f a).category + ((so_ms f t).map fun v => v.category).sum ≤ 2 * (t.length + 1)
    have : (so_vl f a).category ≤ 2 := by
      unfold so_vl
      split
      · exact Nat.le_succ 1
      · split
        · exact Nat.le_succ 1
        · split
          · exact Nat.le_succ 1
          · exact Nat.le_refl 2
    omega
theorem so_cats2 (f : Nat → Nat) (st : List Nat) : ((so_ms f st).map fun v => v.category).sum ≤ so_ct st := by
  induction st with
  | nil => exact Nat.le_refl _
  | cons a t ih =>
    show (so_vl f a).category + ((so_ms f t).map fun v => v.category).sum ≤ so_if (so_cat a) 1 2 + so_ct t
    have : (so_vl f a).category ≤ so_if (so_cat a) 1 2 := by
      cases hc : so_cat a with
      | false =>
        show (so_vl f a).category ≤ 2
        unfold so_vl
        split
        · exact Nat.le_succ 1
        · split
          · exact Nat.le_succ 1
          · split
            · exact Nat.le_succ 1
            · exact Nat.le_refl 2
      | true =>
        show (so_vl f a).category ≤ 1
        have h3 : a % 4 ≠ 3 := by
          intro h3
          unfold so_cat at hc
          have h3 : Nat.mod a 4 = 3 := h3
          rw [h3] at hc
          cases hc
        unfold so_vl
        split
        · exact Nat.le_refl 1
        · split
          · exact Nat.le_refl 1
          · split
            · exact Nat.le_refl 1
            · omega
    omega
theorem so_sw_def : ∀ k, 29 ≤ k → so_sw k = so_sw 4294967295 := by
  intro k hk
  have e : ∀ (a b : Nat), so_br k 29 a b = b := by
    intro a b
    have : Nat.blt k 29 = false := by
      cases hb : Nat.blt k 29
      · rfl
      · have := so_blt.mp hb; omega
    unfold so_br
    rw [this]
  exact e _ _
theorem so_fitI (f : Nat → Nat) {v : Nat} (hv : so_int v = true) : ∀ t, so_fI t = true → narrow t (so_vl f v) = so_vl f v ∧ fits t (so_vl f v) = true := by
  intro t ht
  rw [so_vl_int hv]
  cases t <;> first | (cases ht; done) | exact ⟨rfl, rfl⟩
theorem so_fitA (f : Nat → Nat) {v : Nat} (hv : so_ref v = true) : ∀ t, so_fA t = true → narrow t (so_vl f v) = so_vl f v ∧ fits t (so_vl f v) = true := by
  intro t ht
  rw [so_vl_ref hv]
  cases t <;> first | (cases ht; done) | exact ⟨rfl, rfl⟩
theorem so_fitZ (f : Nat → Nat) {v : Nat} (hv : so_bo v = true) : ∀ t, so_fZ t = true → narrow t (so_vl f v) = so_vl f v ∧ fits t (so_vl f v) = true := by
  intro t ht
  have hv2 : v = 0 ∨ v = 4 := by
    unfold so_bo at hv
    rw [Bool.or_eq_true] at hv
    rcases hv with z | z
    · exact Or.inl (Nat.eq_of_beq_eq_true z)
    · exact Or.inr (Nat.eq_of_beq_eq_true z)
  have hvi : so_int v = true := by rcases hv2 with rfl | rfl <;> rfl
  rw [so_vl_int hvi]
  cases t <;> first | (cases ht; done) | skip
  rcases hv2 with rfl | rfl <;> exact ⟨by decide +kernel, by decide +kernel⟩
variable {p : Program} {l : Launch} {e : Env} {R : Room} {s : State} {m : MethodId} {args : Array Value} {below : List Frame} {meth : Method} {c : Code} {H : Heap} {locs : List Loc} {Q : State → Prop}
variable {cc : ByteArray} {pc : Nat} {ls : Array Slot} {f : Nat → Nat} {lv : so_L} {st : List Nat} {nL : Nat} {i : Instr} {len o x y : Nat} {own mn : String} {Ts : List Cond}
variable {D : va_G} {cl : List vw_C} {base : Nat} {scr : List Nat} {h : so_H} {ca sa c0 s0 : Nat} {Z : so_Z0}
theorem so_stepA (hx : p.tables.exec = Jvm.exec) (hb : c.code = cc) (hml : c.maxLocals = nL) (hmn : meth.name = mn) (hown : s.vm.findClass own = some m.cls) (hts : ∀ w ∈ Ts, w.before args s = true) (hK : va_K D cl [] s) (hkl : ∀ x, so_kl Ts cl x) (hs31 : scr.length < 2 ^ 31) (hRf : 1 ≤ R.frames) (hRl : 60 ≤ R.locals)
    (hd : decode cc pc = .ok (i, len)) (hk : so_chkA Ts cl own mn nL pc i o x y len = true) (hY : so_ops scr o so_ynx so_ymm so_yzz none (pc + len) x y lv st h ca sa = some Z)
    (hr : so_rel D cl base scr f h s H) (hl : so_lh f ls nL lv) (hlocs : ∀ q ∈ locs, base ≤ q.base) :
    ∃ q1 lv1 st1 h1 c1 s1, Z = .inl (q1, lv1, st1, h1, c1, s1) ∧ ca ≤ c1 ∧ sa ≤ s1 ∧ so_hlen h ≤ so_hlen h1 ∧ (c1 - c0 ≤ R.cells → s1 - s0 ≤ R.slots → c0 ≤ ca → s0 ≤ sa →
      (∀ (f1 : Nat → Nat) (H1 : Heap) (ls1 : Array Slot) (locs1 : List Loc), (∀ z, z < so_hlen h → f1 z = f z) → so_rel D cl base scr f1 h1 s H1 → so_lh f1 ls1 nL lv1 → (∀ q ∈ locs1, base ≤ q.base) → W p l e R s m args below meth c H1 locs1 (c1 - c0) (s1 - s0) Q (F0 m q1 ls1 (so_ms f1 st1))) →
      W p l e R s m args below meth c H locs (ca - c0) (sa - s0) Q (F0 m pc ls (so_ms f st))) := by
  subst hmn
  have hset : ∀ (H1 : Heap) (a k : Nat), base ≤ a → ∀ q ∈ locs ++ [(⟨a, k⟩ : Loc)], base ≤ q.base := by
    intro H1 a k ha q hq
    rcases List.mem_append.mp hq with z | z
    · exact hlocs q z
    · rw [List.mem_singleton] at z
      subst z
      exact ha
  have hlen0 := Nat.le_refl (so_hlen h)
  unfold so_chkA at hk
  by_cases ho : o = 0
  · rw [if_pos ho] at hk
    subst ho
    obtain ⟨v, h1, h2, rfl⟩ := si0 (t := so_int) (q := pc + len) (x := x) (y := y) (lv := lv) (st := st) (h := h) (c := ca) (s := sa) (Z := Z) hY
    exact ⟨_, _, _, _, _, _, rfl, Nat.le_refl _, Nat.le_refl _, hlen0, fun _ _ _ _ kk => sw_iload hx hb hk hd hl h1 h2 (kk f H ls locs (fun _ _ => rfl) hr hl hlocs)⟩
  rw [if_neg ho] at hk
  by_cases ho : o = 51
  · rw [if_pos ho] at hk
    subst ho
    obtain ⟨v, h1, h2, rfl⟩ := si0 (t := so_ref) (q := pc + len) (x := x) (y := y) (lv := lv) (st := st) (h := h) (c := ca) (s := sa) (Z := Z) hY
    exact ⟨_, _, _, _, _, _, rfl, Nat.le_refl _, Nat.le_refl _, hlen0, fun _ _ _ _ kk => sw_aload hx hb hk hd hl h1 h2 (kk f H ls locs (fun _ _ => rfl) hr hl hlocs)⟩
  rw [if_neg ho] at hk
  by_cases ho : o = 1
  · rw [if_pos ho] at hk
    subst ho
    obtain ⟨v, st1, rfl, h2, rfl⟩ := si1 (t := so_int) (q := pc + len) (x := x) (y := y) (lv := lv) (st := st) (h := h) (c := ca) (s := sa) (Z := Z) hY
    exact ⟨_, _, _, _, _, _, rfl, Nat.le_refl _, Nat.le_refl _, hlen0, fun _ _ _ _ kk => sw_istore hx hb hk hd hl h2 (fun ls' hl' => kk f H ls' locs (fun _ _ => rfl) hr hl' hlocs)⟩
  rw [if_neg ho] at hk
  by_cases ho : o = 52
  · rw [if_pos ho] at hk
    subst ho
    obtain ⟨v, st1, rfl, h2, rfl⟩ := si1 (t := so_ref) (q := pc + len) (x := x) (y := y) (lv := lv) (st := st) (h := h) (c := ca) (s := sa) (Z := Z) hY
    exact ⟨_, _, _, _, _, _, rfl, Nat.le_refl _, Nat.le_refl _, hlen0, fun _ _ _ _ kk => sw_astore hx hb hk hd hl h2 (fun ls' hl' => kk f H ls' locs (fun _ _ => rfl) hr hl' hlocs)⟩
  rw [if_neg ho] at hk
  by_cases ho : o = 2
  · rw [if_pos ho] at hk
    subst ho
    have hY := si2 (q := pc + len) (x := x) (y := y) (lv := lv) (st := st) (h := h) (c := ca) (s := sa) (Z := Z) hY
    subst hY
    exact ⟨_, _, _, _, _, _, rfl, Nat.le_refl _, Nat.le_refl _, hlen0, fun _ _ _ _ kk => sw_const hx hb hown hts hk hd (kk f H ls locs (fun _ _ => rfl) hr hl hlocs)⟩
  rw [if_neg ho] at hk
  by_cases ho : o = 3
  · rw [if_pos ho] at hk
    subst ho
    obtain ⟨a, t, rfl, h2, rfl⟩ := si3 (q := pc + len) (x := x) (y := y) (lv := lv) (st := st) (h := h) (c := ca) (s := sa) (Z := Z) hY
    refine ⟨_, _, _, _, _, _, rfl, Nat.le_refl _, Nat.le_refl _, hlen0, fun _ _ _ _ kk => sw_if hx hb hk hd h2 (fun hc => ?_) (fun hc => ?_)⟩
    · rw [hc] at kk
      exact kk f H ls locs (fun _ _ => rfl) hr hl hlocs
    · rw [Bool.eq_false_iff.mpr hc] at kk
      exact kk f H ls locs (fun _ _ => rfl) hr hl hlocs
  rw [if_neg ho] at hk
  by_cases ho : o = 4
  · rw [if_pos ho] at hk
    subst ho
    obtain ⟨b, a, t, rfl, h2, h3, rfl⟩ := si4 (q := pc + len) (x := x) (y := y) (lv := lv) (st := st) (h := h) (c := ca) (s := sa) (Z := Z) hY
    refine ⟨_, _, _, _, _, _, rfl, Nat.le_refl _, Nat.le_refl _, hlen0, fun _ _ _ _ kk => sw_icmp hx hb hk hd h2 h3 (fun hc => ?_) (fun hc => ?_)⟩
    · rw [hc] at kk
      exact kk f H ls locs (fun _ _ => rfl) hr hl hlocs
    · rw [Bool.eq_false_iff.mpr hc] at kk
      exact kk f H ls locs (fun _ _ => rfl) hr hl hlocs
  rw [if_neg ho] at hk
  by_cases ho : o = 5
  · rw [if_pos ho] at hk
    subst ho
    have hY := si5 (q := pc + len) (x := x) (y := y) (lv := lv) (st := st) (h := h) (c := ca) (s := sa) (Z := Z) hY
    subst hY
    rw [Bool.and_eq_true, beq_iff_eq] at hk
    exact ⟨_, _, _, _, _, _, rfl, Nat.le_refl _, Nat.le_refl _, hlen0, fun _ _ _ _ kk => sw_goto hx hb hk.1 hk.2 hd (kk f H ls locs (fun _ _ => rfl) hr hl hlocs)⟩
  rw [if_neg ho] at hk
  by_cases ho : o = 6
  · rw [if_pos ho] at hk
    subst ho
    obtain ⟨r, t, n, N, rfl, h2, h3, rfl⟩ := si6 (q := pc + len) (x := x) (y := y) (lv := lv) (st := st) (h := h) (c := ca) (s := sa) (Z := Z) hY
    unfold so_ckg at hk
    split at hk
    · exact ⟨_, _, _, _, _, _, rfl, Nat.le_refl _, Nat.le_refl _, hlen0, fun _ _ _ _ kk => sw_get hx hb hown hts hK (hkl x) hk hd hr h2 h3 (kk f H ls locs (fun _ _ => rfl) hr hl hlocs)⟩
    · cases hk
  rw [if_neg ho] at hk
  by_cases ho : o = 7
  · rw [if_pos ho] at hk
    subst ho
    obtain ⟨v, r, st1, n, N, rfl, h2, h3, h4, h5, rfl⟩ := si7 (t := so_int) (q := pc + len) (x := x) (y := y) (lv := lv) (st := st) (h := h) (c := ca) (s := sa) (Z := Z) hY
    unfold so_ckp at hk
    split at hk
    · exact ⟨_, _, _, _, _, _, rfl, Nat.le_refl _, Nat.le_refl _, Nat.le_of_eq (so_upd_len hr.1 _ _).symm, fun _ _ _ _ kk => sw_put hx hb hown hts hK (hkl x) hk hd hr h2 h3 (so_fitI f h4) h5 (fun H1 k g1 g2 => kk f H1 ls _ (fun _ _ => rfl) g1 hl (hset H1 _ k g2))⟩
    · cases hk
  rw [if_neg ho] at hk
  by_cases ho : o = 54
  · rw [if_pos ho] at hk
    subst ho
    obtain ⟨v, r, st1, n, N, rfl, h2, h3, h4, h5, rfl⟩ := si7 (t := so_bo) (q := pc + len) (x := x) (y := y) (lv := lv) (st := st) (h := h) (c := ca) (s := sa) (Z := Z) hY
    unfold so_ckp at hk
    split at hk
    · exact ⟨_, _, _, _, _, _, rfl, Nat.le_refl _, Nat.le_refl _, Nat.le_of_eq (so_upd_len hr.1 _ _).symm, fun _ _ _ _ kk => sw_put hx hb hown hts hK (hkl x) hk hd hr h2 h3 (so_fitZ f h4) h5 (fun H1 k g1 g2 => kk f H1 ls _ (fun _ _ => rfl) g1 hl (hset H1 _ k g2))⟩
    · cases hk
  rw [if_neg ho] at hk
  by_cases ho : o = 55
  · rw [if_pos ho] at hk
    subst ho
    obtain ⟨v, r, st1, n, N, rfl, h2, h3, h4, h5, rfl⟩ := si7 (t := so_ref) (q := pc + len) (x := x) (y := y) (lv := lv) (st := st) (h := h) (c := ca) (s := sa) (Z := Z) hY
    unfold so_ckp at hk
    split at hk
    · exact ⟨_, _, _, _, _, _, rfl, Nat.le_refl _, Nat.le_refl _, Nat.le_of_eq (so_upd_len hr.1 _ _).symm, fun _ _ _ _ kk => sw_put hx hb hown hts hK (hkl x) hk hd hr h2 h3 (so_fitA f h4) h5 (fun H1 k g1 g2 => kk f H1 ls _ (fun _ _ => rfl) g1 hl (hset H1 _ k g2))⟩
    · cases hk
  rw [if_neg ho] at hk
  by_cases ho : o = 8
  · rw [if_pos ho] at hk
    subst ho
    unfold so_ck8 at hk
    rw [Bool.and_eq_true, beq_iff_eq] at hk
    obtain ⟨rfl, hk⟩ := hk
    obtain ⟨j, r, t, rfl, h2, h3⟩ := si8 (q := pc + 1) (x := x) (y := y) (lv := lv) (st := st) (h := h) (c := ca) (s := sa) (Z := Z) hY
    split at hk
    · simp only [Bool.and_eq_true, beq_iff_eq] at hk
      obtain ⟨rfl, rfl⟩ := hk
      rcases h3 with ⟨rfl, -, w, h4, rfl⟩ | ⟨h4, n, N, h5, h6, rfl⟩
      · exact ⟨_, _, _, _, _, _, rfl, Nat.le_refl _, Nat.le_refl _, hlen0, fun _ _ _ _ kk => sw_sld hx hb hd hr h2 hs31 h4 (kk f H ls locs (fun _ _ => rfl) hr hl hlocs)⟩
      · exact ⟨_, _, _, _, _, _, rfl, Nat.le_refl _, Nat.le_refl _, hlen0, fun _ _ _ _ kk => sw_iald hx hb hd hr h4 h2 h5 h6 (kk f H ls locs (fun _ _ => rfl) hr hl hlocs)⟩
    · simp only [Bool.and_eq_true, beq_iff_eq] at hk
      obtain ⟨rfl, rfl⟩ := hk
      rcases h3 with ⟨-, h9, -⟩ | ⟨h4, n, N, h5, h6, rfl⟩
      · exact absurd h9 (by decide)
      · exact ⟨_, _, _, _, _, _, rfl, Nat.le_refl _, Nat.le_refl _, hlen0, fun _ _ _ _ kk => sw_lald hx hb hd hr h4 h2 h5 h6 (kk f H ls locs (fun _ _ => rfl) hr hl hlocs)⟩
    · cases hk
  rw [if_neg ho] at hk
  by_cases ho : o = 13
  · rw [if_pos ho] at hk
    subst ho
    obtain ⟨g1, g2, g3, rfl⟩ := si13 (cls := so_cls) (q := pc + len) (x := x) (y := y) (lv := lv) (st := st) (h := h) (c := ca) (s := sa) (Z := Z) hY
    unfold so_ckn at hk
    split at hk
    · refine ⟨_, _, _, _, _, _, rfl, Nat.le_succ _, Nat.le_add_right _ _, by rw [so_push_len hr.1]; exact Nat.le_succ _, fun q1 q2 q3 q4 kk => ?_⟩
      have e1 : ca + 1 - c0 = ca - c0 + 1 := by omega
      have e2 : sa + (so_cls x).1 - s0 = sa - s0 + (so_cls x).1 := by omega
      rw [e1, e2] at kk
      exact sw_new hx hb hown hts hK (hkl x) hk hd hr hl g1 g2 g3 (by omega) (by omega) (fun f1 H1 k1 k2 k3 => kk f1 H1 ls locs k1 k2 k3 hlocs)
    · cases hk
  rw [if_neg ho] at hk
  by_cases ho : o = 14
  · rw [if_pos ho] at hk
    subst ho
    obtain ⟨v, t, rfl, a1, a2, a3, g1, g2, g3, rfl⟩ := si14 (q := pc + len) (x := x) (y := y) (lv := lv) (st := st) (h := h) (c := ca) (s := sa) (Z := Z) hY
    refine ⟨_, _, _, _, _, _, rfl, Nat.le_succ _, Nat.le_add_right _ _, by rw [so_push_len hr.1]; exact Nat.le_succ _, fun q1 q2 q3 q4 kk => ?_⟩
    have e1 : ca + 1 - c0 = ca - c0 + 1 := by omega
    have e2 : sa + v / 4 - s0 = sa - s0 + v / 4 := by omega
    rw [e1, e2] at kk
    exact sw_newa hx hb hts hk hd a1 a2 a3 hr hl g1 g2 g3 (by omega) (by omega) (fun f1 H1 k1 k2 k3 => kk f1 H1 ls locs k1 k2 k3 hlocs)
  rw [if_neg ho] at hk
  by_cases ho : o = 57
  · rw [if_pos ho] at hk
    subst ho
    obtain ⟨v, t, rfl, a1, a2, rfl⟩ := si57 (q := pc + len) (x := x) (y := y) (lv := lv) (st := st) (h := h) (c := ca) (s := sa) (Z := Z) hY
    unfold so_ck57 at hk
    rw [Bool.and_eq_true, beq_iff_eq] at hk
    obtain ⟨rfl, hk⟩ := hk
    split at hk
    · simp only [Bool.and_eq_true, decide_eq_true_eq] at hk
      obtain ⟨⟨w1, w2⟩, w3⟩ := hk
      have := so_cats f t
      exact ⟨_, _, _, _, _, _, rfl, Nat.le_refl _, Nat.le_refl _, hlen0, fun _ _ _ _ kk => sw_obj hx hb hown hts hml hl w1 w2 w3 hd a1 hRf (by omega) (kk f H ls locs (fun _ _ => rfl) hr hl hlocs)⟩
    · cases hk
  rw [if_neg ho] at hk
  by_cases ho : o = 18
  · rw [if_pos ho] at hk
    subst ho
    obtain ⟨v, a1, a2, rfl⟩ := si18 (q := pc + len) (x := x) (y := y) (lv := lv) (st := st) (h := h) (c := ca) (s := sa) (Z := Z) hY
    exact ⟨_, _, _, _, _, _, rfl, Nat.le_refl _, Nat.le_refl _, hlen0, fun _ _ _ _ kk => sw_iinc hx hb hk hd hl a1 a2 (fun ls' hl' => kk f H ls' locs (fun _ _ => rfl) hr hl' hlocs)⟩
  rw [if_neg ho] at hk
  by_cases ho : o = 28
  · rw [if_pos ho] at hk
    subst ho
    obtain ⟨v, t, rfl, a1, a2, rfl⟩ := si28 (sw := so_sw) (q := pc + len) (x := x) (y := y) (lv := lv) (st := st) (h := h) (c := ca) (s := sa) (Z := Z) hY
    unfold so_ck28b at hk
    rw [Bool.and_eq_true] at hk
    refine ⟨_, _, _, _, _, _, rfl, Nat.le_refl _, Nat.le_refl _, hlen0, fun _ _ _ _ kk => sw_switch so_sw_def hx hb hk.1 (fun d lo hi offs he => ?_) hd a1 a2 (kk f H ls locs (fun _ _ => rfl) hr hl hlocs)⟩
    have h9 := hk.2
    rw [he] at h9
    exact beq_iff_eq.mp h9
  rw [if_neg ho] at hk
  by_cases ho : o = 30
  · rw [if_pos ho] at hk
    subst ho
    obtain ⟨n, b, a, t, na, Na, nb, Nb, rfl, a1, a2, a3, a4, a5, a6, a7, a8, rfl⟩ := si30 (q := pc + len) (x := x) (y := y) (lv := lv) (st := st) (h := h) (c := ca) (s := sa) (Z := Z) hY
    unfold so_ck30 at hk
    rw [Bool.and_eq_true, beq_iff_eq] at hk
    obtain ⟨rfl, hk⟩ := hk
    split at hk
    · simp only [Bool.and_eq_true, decide_eq_true_eq] at hk
      obtain ⟨⟨⟨w1, w2⟩, w3⟩, w4⟩ := hk
      have := so_cats f t
      have e9 : nativeFrameWords "java/lang/System" "arraycopy" 5 = 7 := by decide +kernel
      refine ⟨_, _, _, _, _, _, rfl, Nat.le_refl _, Nat.le_refl _, Nat.le_of_eq (so_upd_len hr.1 _ _).symm, fun _ _ _ _ kk => sw_copy hx hb hown hts hml hl w1 w2 w3 w4 hd hr a1 a3 a4 a5 a6 a7 a8 hRf (by omega) (fun H1 locs1 k1 k2 => kk f H1 ls locs1 (fun _ _ => rfl) k1 hl (fun q hq => ?_))⟩
      rcases k2 q hq with z | z
      · exact hlocs q z
      · exact z
    · cases hk
  rw [if_neg ho] at hk
  by_cases ho : o = 58
  · rw [if_pos ho] at hk
    subst ho
    obtain ⟨b, a, t, rfl, a1, a2, a3, rfl⟩ := simx (f := so_max) (q := pc + len) (x := x) (y := y) (lv := lv) (st := st) (h := h) (c := ca) (s := sa) (Z := Z) hY
    unfold so_ckmx at hk
    rw [Bool.and_eq_true, beq_iff_eq] at hk
    obtain ⟨rfl, hk⟩ := hk
    split at hk
    · simp only [Bool.and_eq_true, decide_eq_true_eq] at hk
      obtain ⟨⟨⟨w1, w2⟩, w3⟩, w4⟩ := hk
      have := so_cats f t
      refine ⟨_, _, _, _, _, _, rfl, Nat.le_refl _, Nat.le_refl _, hlen0, fun q1 q2 _ _ kk => ?_⟩
      have kk := kk f H ls locs (fun _ _ => rfl) hr hl hlocs
      have kk : W p l e R s m args below meth c H locs (ca - c0) (sa - s0) Q (F0 m (pc + 3) ls (so_vl f (4 * so_max (a / 4) (b / 4)) :: so_ms f t)) := kk
      show W p l e R s m args below meth c H locs (ca - c0) (sa - s0) Q (F0 m pc ls (so_vl f b :: so_vl f a :: so_ms f t))
      rw [so_vl_int a1, so_vl_int a2]
      rw [so_vl_4] at kk
      refine va_mmax hx hb (by rw [hml]; exact hl.1.symm) hown (hts _ w1) (hts _ w2) (hts _ w3) (hts _ w4) hRf (by omega) q1 q2 hd ?_
      have e9 : Int32.ofNat (so_max (a / 4) (b / 4)) = (if Int32.ofNat (a / 4) < Int32.ofNat (b / 4) then Int32.ofNat (b / 4) else Int32.ofNat (a / 4)) := by
        unfold so_max
        cases h9 : so_lt (a / 4) (b / 4) with
        | true => rw [if_pos ((so_lti _ _).mp h9)]; rfl
        | false => rw [if_neg (fun z => by rw [(so_lti _ _).mpr z] at h9; cases h9)]; rfl
      rw [e9] at kk
      exact kk
    · cases hk
  rw [if_neg ho] at hk
  by_cases ho : o = 59
  · rw [if_pos ho] at hk
    subst ho
    obtain ⟨b, a, t, rfl, a1, a2, a3, rfl⟩ := simx (f := so_min) (q := pc + len) (x := x) (y := y) (lv := lv) (st := st) (h := h) (c := ca) (s := sa) (Z := Z) hY
    unfold so_ckmx at hk
    rw [Bool.and_eq_true, beq_iff_eq] at hk
    obtain ⟨rfl, hk⟩ := hk
    split at hk
    · simp only [Bool.and_eq_true, decide_eq_true_eq] at hk
      obtain ⟨⟨⟨w1, w2⟩, w3⟩, w4⟩ := hk
      have := so_cats f t
      refine ⟨_, _, _, _, _, _, rfl, Nat.le_refl _, Nat.le_refl _, hlen0, fun q1 q2 _ _ kk => ?_⟩
      have kk := kk f H ls locs (fun _ _ => rfl) hr hl hlocs
      have kk : W p l e R s m args below meth c H locs (ca - c0) (sa - s0) Q (F0 m (pc + 3) ls (so_vl f (4 * so_min (a / 4) (b / 4)) :: so_ms f t)) := kk
      show W p l e R s m args below meth c H locs (ca - c0) (sa - s0) Q (F0 m pc ls (so_vl f b :: so_vl f a :: so_ms f t))
      rw [so_vl_int a1, so_vl_int a2]
      rw [so_vl_4] at kk
      refine va_mmin hx hb (by rw [hml]; exact hl.1.symm) hown (hts _ w1) (hts _ w2) (hts _ w3) (hts _ w4) hRf (by omega) q1 q2 hd ?_
      have e9 : Int32.ofNat (so_min (a / 4) (b / 4)) = (if Int32.ofNat (b / 4) < Int32.ofNat (a / 4) then Int32.ofNat (b / 4) else Int32.ofNat (a / 4)) := by
        unfold so_min
        cases h9 : so_lt (b / 4) (a / 4) with
        | true => rw [if_pos ((so_lti _ _).mp h9)]; rfl
        | false => rw [if_neg (fun z => by rw [(so_lti _ _).mpr z] at h9; cases h9)]; rfl
      rw [e9] at kk
      exact kk
    · cases hk
  rw [if_neg ho] at hk
  by_cases ho : o = 9 ∨ o = 23 ∨ o = 16 ∨ o = 17 ∨ o = 19 ∨ o = 22 ∨ o = 27
  · rw [if_pos ho] at hk
    unfold so_ckm at hk
    rw [Bool.and_eq_true, beq_iff_eq] at hk
    obtain ⟨rfl, hk⟩ := hk
    split at hk
    · rw [beq_iff_eq] at hk
      subst hk
      obtain ⟨v, j, r, t, n, N, rfl, a1, a2, a3, a4, a5, rfl⟩ := si9 (q := pc + 1) (x := x) (y := y) (lv := lv) (st := st) (h := h) (c := ca) (s := sa) (Z := Z) hY
      exact ⟨_, _, _, _, _, _, rfl, Nat.le_refl _, Nat.le_refl _, Nat.le_of_eq (so_upd_len hr.1 _ _).symm, fun _ _ _ _ kk => sw_iast hx hb hd hr a3 a2 a1 a4 a5 (fun H1 k g1 g2 => kk f H1 ls _ (fun _ _ => rfl) g1 hl (hset H1 _ k g2))⟩
    · rw [Bool.and_eq_true, beq_iff_eq, beq_iff_eq] at hk
      obtain ⟨rfl, rfl⟩ := hk
      obtain ⟨v, j, r, t, n, N, rfl, a1, a2, a3, a4, a5, a6, rfl⟩ := si23 (q := pc + 1) (x := 1000) (y := y) (lv := lv) (st := st) (h := h) (c := ca) (s := sa) (Z := Z) hY
      exact ⟨_, _, _, _, _, _, rfl, Nat.le_refl _, Nat.le_refl _, Nat.le_of_eq (so_upd_len hr.1 _ _).symm, fun _ _ _ _ kk => sw_last hx hb hd hr a3 a2 a1 a6 a4 a5 (fun H1 k g1 g2 => kk f H1 ls _ (fun _ _ => rfl) g1 hl (hset H1 _ k g2))⟩
    · rw [beq_iff_eq] at hk
      subst hk
      obtain ⟨v, t, rfl, a1, rfl⟩ := si16 (q := pc + 1) (x := x) (y := y) (lv := lv) (st := st) (h := h) (c := ca) (s := sa) (Z := Z) hY
      exact ⟨_, _, _, _, _, _, rfl, Nat.le_refl _, Nat.le_refl _, hlen0, fun _ _ _ _ kk => sw_dup hx hb hd a1 (kk f H ls locs (fun _ _ => rfl) hr hl hlocs)⟩
    · rw [beq_iff_eq] at hk
      subst hk
      obtain ⟨v, t, rfl, a1, rfl⟩ := si17 (t := so_cat) (q := pc + 1) (x := x) (y := y) (lv := lv) (st := st) (h := h) (c := ca) (s := sa) (Z := Z) hY
      exact ⟨_, _, _, _, _, _, rfl, Nat.le_refl _, Nat.le_refl _, hlen0, fun _ _ _ _ kk => sw_pop hx hb hd a1 (kk f H ls locs (fun _ _ => rfl) hr hl hlocs)⟩
    · rw [beq_iff_eq] at hk
      subst hk
      obtain ⟨v, t, rfl, a1, rfl⟩ := si19 (q := pc + 1) (x := x) (y := y) (lv := lv) (st := st) (h := h) (c := ca) (s := sa) (Z := Z) hY
      exact ⟨_, _, _, _, _, _, rfl, Nat.le_refl _, Nat.le_refl _, hlen0, fun _ _ _ _ kk => sw_i2l hx hb hd a1 (kk f H ls locs (fun _ _ => rfl) hr hl hlocs)⟩
    · rw [beq_iff_eq] at hk
      subst hk
      obtain ⟨b, a, t, rfl, a1, a2, a3, a4, rfl⟩ := si22 (q := pc + 1) (x := x) (y := y) (lv := lv) (st := st) (h := h) (c := ca) (s := sa) (Z := Z) hY
      exact ⟨_, _, _, _, _, _, rfl, Nat.le_refl _, Nat.le_refl _, hlen0, fun _ _ _ _ kk => sw_lcmp hx hb hd a1 a2 a3 a4 (kk f H ls locs (fun _ _ => rfl) hr hl hlocs)⟩
    · rw [beq_iff_eq] at hk
      subst hk
      obtain ⟨r, t, rfl, h3⟩ := si27 (q := pc + 1) (x := x) (y := y) (lv := lv) (st := st) (h := h) (c := ca) (s := sa) (Z := Z) hY
      rcases h3 with ⟨rfl, rfl⟩ | ⟨a1, n, N, a2, rfl⟩
      · exact ⟨_, _, _, _, _, _, rfl, Nat.le_refl _, Nat.le_refl _, hlen0, fun _ _ _ _ kk => sw_slen hx hb hd hr (kk f H ls locs (fun _ _ => rfl) hr hl hlocs)⟩
      · exact ⟨_, _, _, _, _, _, rfl, Nat.le_refl _, Nat.le_refl _, hlen0, fun _ _ _ _ kk => sw_alen hx hb hd hr a1 a2 (kk f H ls locs (fun _ _ => rfl) hr hl hlocs)⟩
    · cases hk
  rw [if_neg ho] at hk
  have key : ∀ g : Nat → Nat → Nat, so_af o = g → so_ar g so_ynx so_ymm so_yzz none (pc + len) x y lv st h ca sa = some Z → ∃ q1 lv1 st1 h1 c1 s1, Z = .inl (q1, lv1, st1, h1, c1, s1) ∧ ca ≤ c1 ∧ sa ≤ s1 ∧ so_hlen h ≤ so_hlen h1 ∧ (c1 - c0 ≤ R.cells → s1 - s0 ≤ R.slots → c0 ≤ ca → s0 ≤ sa →
      (∀ (f1 : Nat → Nat) (H1 : Heap) (ls1 : Array Slot) (locs1 : List Loc), (∀ z, z < so_hlen h → f1 z = f z) → so_rel D cl base scr f1 h1 s H1 → so_lh f1 ls1 nL lv1 → (∀ q ∈ locs1, base ≤ q.base) → W p l e R s m args below meth c H1 locs1 (c1 - c0) (s1 - s0) Q (F0 m q1 ls1 (so_ms f1 st1))) →
      W p l e R s m args below meth c H locs (ca - c0) (sa - s0) Q (F0 m pc ls (so_ms f st))) := by
    intro g hg hY
    obtain ⟨b, a, t, rfl, a1, a2, rfl⟩ := siar (q := pc + len) (x := x) (y := y) (lv := lv) (st := st) (h := h) (c := ca) (s := sa) (Z := Z) hY
    subst hg
    exact ⟨_, _, _, _, _, _, rfl, Nat.le_refl _, Nat.le_refl _, hlen0, fun _ _ _ _ kk => sw_arith hx hb hk hd a1 a2 (kk f H ls locs (fun _ _ => rfl) hr hl hlocs)⟩
  have hk2 := hk
  unfold so_ck32 at hk2
  rw [Bool.and_eq_true] at hk2
  have hk2 := hk2.2
  split at hk2
  · have := beq_iff_eq.mp hk2; subst this; exact key so_add rfl hY
  · have := beq_iff_eq.mp hk2; subst this; exact key so_sub rfl hY
  · have := beq_iff_eq.mp hk2; subst this; exact key so_mul rfl hY
  · have := beq_iff_eq.mp hk2; subst this; exact key Nat.land rfl hY
  · have := beq_iff_eq.mp hk2; subst this; exact key Nat.xor rfl hY
  · have := beq_iff_eq.mp hk2; subst this; exact key so_shl rfl hY
  · have := beq_iff_eq.mp hk2; subst this; exact key so_ushr rfl hY
  · cases hk2
end SMP
