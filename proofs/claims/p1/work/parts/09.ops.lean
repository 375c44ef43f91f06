/-! ===== the instructions of the small machine are the machine's: locals, operands, arithmetic, branches ===== -/
section SMS
def so_ms (f : Nat → Nat) (st : List Nat) : List Value := st.map (so_vl f)
/-- the locals -/
def so_lh (f : Nat → Nat) (ls : Array Slot) (nL : Nat) (lv : so_L) : Prop := ls.size = nL ∧ lv_wf ls ∧ ∀ x v, so_find lv x = some v → ls[x]? = some (.val (so_vl f v)) ∧ so_cat v = true
theorem so_find_c (a : Nat × Nat) (t : so_L) (x : Nat) : so_find (a :: t) x = if a.1 = x then some a.2 else so_find t x := by
  show Bool.rec (motive := fun _ => Option Nat) (so_find t x) (some a.2) (Nat.beq a.1 x) = _
  by_cases h : a.1 = x
  · rw [if_pos h, h, Nat.beq_refl]
  · rw [if_neg h]
    cases hb : Nat.beq a.1 x
    · rfl
    · exact absurd (Nat.eq_of_beq_eq_true hb) h
theorem so_find_put (l : so_L) (x v y : Nat) : so_find (so_put l x v) y = if x = y then some v else so_find l y := by
  induction l with
  | nil => show so_find [(x, v)] y = _; rw [so_find_c]
  | cons a t ih =>
    show so_find (Bool.rec (motive := fun _ => so_L) (a :: so_put t x v) ((x, v) :: t) (Nat.beq a.1 x)) y = _
    cases hb : Nat.beq a.1 x with
    | false =>
      have hne : ¬ a.1 = x := fun z => by rw [z, Nat.beq_refl] at hb; cases hb
      show so_find (a :: so_put t x v) y = _
      rw [so_find_c, ih, so_find_c]
      by_cases h1 : a.1 = y
      · rw [if_pos h1, if_pos h1, if_neg (fun z => hne (h1.trans z.symm))]
      · rw [if_neg h1, if_neg h1]
    | true =>
      have he : a.1 = x := Nat.eq_of_beq_eq_true hb
      show so_find ((x, v) :: t) y = _
      rw [so_find_c, so_find_c, he]
      by_cases h1 : x = y
      · rw [if_pos h1, if_pos h1]
      · rw [if_neg h1, if_neg h1, if_neg h1]
theorem so_find_mem {l : so_L} {x v : Nat} (h : so_find l x = some v) : x ∈ l.map Prod.fst := by
  induction l with
  | nil => cases h
  | cons a t ih =>
    rw [so_find_c] at h
    by_cases h1 : a.1 = x
    · simp [h1]
    · rw [if_neg h1] at h
      simp only [List.map_cons, List.mem_cons]
      exact Or.inr (ih h)
noncomputable def so_lm (f : Nat → Nat) (lv : so_L) : List (Nat × Value) := (lv.map Prod.fst).filterMap (fun x => (so_find lv x).map (fun v => (x, so_vl f v)))
theorem so_lm_mem {f : Nat → Nat} {lv : so_L} {x v : Nat} (h : so_find lv x = some v) : (x, so_vl f v) ∈ so_lm f lv := by
  refine List.mem_filterMap.mpr ⟨x, so_find_mem h, ?_⟩
  rw [h]; rfl
theorem so_lh.has {f : Nat → Nat} {ls : Array Slot} {nL : Nat} {lv : so_L} (h : so_lh f ls nL lv) : lv_has ls nL (so_lm f lv) := by
  refine ⟨h.1, h.2.1, fun q hq => ?_⟩
  obtain ⟨x, -, hx⟩ := List.mem_filterMap.mp hq
  cases hv : so_find lv x with
  | none => rw [hv] at hx; cases hx
  | some v =>
    rw [hv] at hx
    cases hx
    exact (h.2.2 x v hv).1
theorem so_cat_1 {f : Nat → Nat} {v : Nat} (h : so_cat v = true) : (so_vl f v).category = 1 := by
  have h3 : v % 4 ≠ 3 := by
    intro z
    unfold so_cat at h
    rw [show Nat.mod v 4 = 3 from z] at h
    cases h
  unfold so_vl
  split
  · rfl
  · split
    · rfl
    · split
      · rfl
      · omega
theorem so_lh.put {f : Nat → Nat} {ls ls' : Array Slot} {nL : Nat} {lv : so_L} {x v : Nat} (h : so_lh f ls nL lv) (hc : so_cat v = true) (h' : lv_has ls' nL ((x, so_vl f v) :: (so_lm f lv).filter (fun q => !(q.1 == x) && !(q.1 + 1 == x && q.2.category == 2)))) : so_lh f ls' nL (so_put lv x v) := by
  refine ⟨h'.1, h'.2.1, fun y w hw => ?_⟩
  rw [so_find_put] at hw
  by_cases h1 : x = y
  · rw [if_pos h1] at hw
    cases hw
    subst h1
    exact ⟨h'.2.2 (x, so_vl f v) List.mem_cons_self, hc⟩
  · rw [if_neg h1] at hw
    refine ⟨?_, (h.2.2 y w hw).2⟩
    refine h'.2.2 (y, so_vl f w) (List.mem_cons_of_mem _ (List.mem_filter.mpr ⟨so_lm_mem hw, ?_⟩))
    have h2 : (so_vl f w).category = 1 := so_cat_1 (h.2.2 y w hw).2
    simp [h2, Ne.symm h1]
theorem so_lh.ext {f g : Nat → Nat} {ls : Array Slot} {nL n : Nat} {lv : so_L} (h : so_lh f ls nL lv) (hfg : ∀ i, i < n → g i = f i) (hok : so_okl n lv = true) : so_lh g ls nL lv := by
  refine ⟨h.1, h.2.1, fun x v hv => ?_⟩
  have hk : so_okv n v = true := by
    clear h
    induction lv with
    | nil => cases hv
    | cons a t ih =>
      have h0 : so_if (so_okv n a.2) (so_okl n t) false = true := hok
      obtain ⟨h1, h2⟩ := so_if_t h0
      rw [so_find_c] at hv
      by_cases hx : a.1 = x
      · rw [if_pos hx] at hv; cases hv; exact h1
      · rw [if_neg hx] at hv; exact ih h2 hv
  rw [so_vl_ext hfg hk]
  exact h.2.2 x v hv
theorem so_ms_ext {f g : Nat → Nat} {n : Nat} {st : List Nat} (hfg : ∀ i, i < n → g i = f i) (hok : so_all (so_okv n) st = true) : so_ms g st = so_ms f st := by
  induction st with
  | nil => rfl
  | cons a t ih =>
    have h0 : so_if (so_okv n a) (so_all (so_okv n) t) false = true := hok
    obtain ⟨h1, h2⟩ := so_if_t h0
    show so_vl g a :: so_ms g t = so_vl f a :: so_ms f t
    rw [so_vl_ext hfg h1, ih h2]
variable {p : Program} {l : Launch} {e : Env} {R : Room} {s : State} {m : MethodId} {args : Array Value} {below : List Frame} {meth : Method} {c : Code} {H : Heap} {locs : List Loc} {cells slots : Nat} {Q : State → Prop}
variable {cc : ByteArray} {pc : Nat} {ls : Array Slot} {f : Nat → Nat} {lv : so_L} {st : List Nat} {nL : Nat} {i : Instr} {len x y v a b : Nat}
def so_ck0 (i : Instr) (x len : Nat) : Bool := match i with
  | .iload_n k => k.val == x && len == 1
  | .iload k => k == x && len == 2
  | _ => false
theorem sw_iload (hx : p.tables.exec = Jvm.exec) (hb : c.code = cc) (hk : so_ck0 i x len = true) (hd : decode cc pc = .ok (i, len)) (hl : so_lh f ls nL lv) (hv : so_find lv x = some v) (ht : so_int v = true)
    (kk : W p l e R s m args below meth c H locs cells slots Q (F0 m (pc + len) ls (so_ms f (v :: st)))) : W p l e R s m args below meth c H locs cells slots Q (F0 m pc ls (so_ms f st)) := by
  have h1 := (hl.2.2 x v hv).1
  have kk : W p l e R s m args below meth c H locs cells slots Q (F0 m (pc + len) ls (so_vl f v :: so_ms f st)) := kk
  rw [so_vl_int ht] at h1 kk
  unfold so_ck0 at hk
  split at hk
  · simp only [Bool.and_eq_true, beq_iff_eq] at hk
    obtain ⟨h2, rfl⟩ := hk
    exact lv_iload_n hx hb hd h2 h1 kk
  · simp only [Bool.and_eq_true, beq_iff_eq] at hk
    obtain ⟨rfl, rfl⟩ := hk
    exact lv_iload hx hb hd h1 kk
  · cases hk
def so_ck51 (i : Instr) (x len : Nat) : Bool := match i with
  | .aload_n k => k.val == x && len == 1
  | .aload k => k == x && len == 2
  | _ => false
theorem sw_aload (hx : p.tables.exec = Jvm.exec) (hb : c.code = cc) (hk : so_ck51 i x len = true) (hd : decode cc pc = .ok (i, len)) (hl : so_lh f ls nL lv) (hv : so_find lv x = some v) (ht : so_ref v = true)
    (kk : W p l e R s m args below meth c H locs cells slots Q (F0 m (pc + len) ls (so_ms f (v :: st)))) : W p l e R s m args below meth c H locs cells slots Q (F0 m pc ls (so_ms f st)) := by
  have h1 := (hl.2.2 x v hv).1
  have kk : W p l e R s m args below meth c H locs cells slots Q (F0 m (pc + len) ls (so_vl f v :: so_ms f st)) := kk
  rw [so_vl_ref ht] at h1 kk
  unfold so_ck51 at hk
  split at hk
  · simp only [Bool.and_eq_true, beq_iff_eq] at hk
    obtain ⟨h2, rfl⟩ := hk
    exact lv_aload_n hx hb hd h2 h1 kk
  · simp only [Bool.and_eq_true, beq_iff_eq] at hk
    obtain ⟨rfl, rfl⟩ := hk
    exact lv_aload hx hb hd h1 kk
  · cases hk
theorem so_int_cat {v : Nat} (h : so_int v = true) : so_cat v = true := by
  unfold so_cat
  rw [show Nat.mod v 4 = 0 from Nat.eq_of_beq_eq_true h]
  rfl
theorem so_ref_cat {v : Nat} (h : so_ref v = true) : so_cat v = true := by
  unfold so_cat
  rw [show Nat.mod v 4 = 1 from Nat.eq_of_beq_eq_true h]
  rfl
def so_ck1 (i : Instr) (x len nL : Nat) : Bool := Nat.blt x nL && match i with
  | .istore_n k => k.val == x && len == 1
  | .istore k => k == x && len == 2
  | _ => false
theorem sw_istore (hx : p.tables.exec = Jvm.exec) (hb : c.code = cc) (hk : so_ck1 i x len nL = true) (hd : decode cc pc = .ok (i, len)) (hl : so_lh f ls nL lv) (ht : so_int v = true)
    (kk : ∀ ls', so_lh f ls' nL (so_put lv x v) → W p l e R s m args below meth c H locs cells slots Q (F0 m (pc + len) ls' (so_ms f st))) : W p l e R s m args below meth c H locs cells slots Q (F0 m pc ls (so_ms f (v :: st))) := by
  show W p l e R s m args below meth c H locs cells slots Q (F0 m pc ls (so_vl f v :: so_ms f st))
  have hp := fun ls' h' => kk ls' (so_lh.put (ls' := ls') hl (so_int_cat ht) h')
  rw [so_vl_int ht] at hp ⊢
  unfold so_ck1 at hk
  rw [Bool.and_eq_true] at hk
  obtain ⟨hn, hk⟩ := hk
  have hn := so_blt.mp hn
  split at hk
  · simp only [Bool.and_eq_true, beq_iff_eq] at hk
    obtain ⟨h2, rfl⟩ := hk
    exact lv_istore_n hx hb hd h2 hl.has hn rfl hp
  · simp only [Bool.and_eq_true, beq_iff_eq] at hk
    obtain ⟨rfl, rfl⟩ := hk
    exact lv_istore hx hb hd hl.has hn rfl hp
  · cases hk
def so_ck52 (i : Instr) (x len nL : Nat) : Bool := Nat.blt x nL && match i with
  | .astore_n k => k.val == x && len == 1
  | .astore k => k == x && len == 2
  | _ => false
theorem sw_astore (hx : p.tables.exec = Jvm.exec) (hb : c.code = cc) (hk : so_ck52 i x len nL = true) (hd : decode cc pc = .ok (i, len)) (hl : so_lh f ls nL lv) (ht : so_ref v = true)
    (kk : ∀ ls', so_lh f ls' nL (so_put lv x v) → W p l e R s m args below meth c H locs cells slots Q (F0 m (pc + len) ls' (so_ms f st))) : W p l e R s m args below meth c H locs cells slots Q (F0 m pc ls (so_ms f (v :: st))) := by
  show W p l e R s m args below meth c H locs cells slots Q (F0 m pc ls (so_vl f v :: so_ms f st))
  have hp := fun ls' h' => kk ls' (so_lh.put (ls' := ls') hl (so_ref_cat ht) h')
  rw [so_vl_ref ht] at hp ⊢
  unfold so_ck52 at hk
  rw [Bool.and_eq_true] at hk
  obtain ⟨hn, hk⟩ := hk
  have hn := so_blt.mp hn
  split at hk
  · simp only [Bool.and_eq_true, beq_iff_eq] at hk
    obtain ⟨h2, rfl⟩ := hk
    exact lv_astore_n hx hb hd h2 hl.has hn rfl hp
  · simp only [Bool.and_eq_true, beq_iff_eq] at hk
    obtain ⟨rfl, rfl⟩ := hk
    exact lv_astore hx hb hd hl.has hn rfl hp
  · cases hk
end SMS
