/-! ===== runs with unknown numbers: tokens stand for the script's ints ===== -/
section SMT
/-- a token: an int's number that no int has -/
def so_tk (v : Nat) : Bool := and (Nat.ble 17179869184 v) (Nat.beq (Nat.mod v 4) 0)
def so_nt (v : Nat) : Bool := not (so_tk v)
/-- what a value stands for -/
noncomputable def so_sb (ws : Nat → Nat) (v : Nat) : Nat := so_if (so_tk v) (4 * ws v) v
noncomputable def so_ss (ws : Nat → Nat) (st : List Nat) : List Nat := st.map (so_sb ws)
noncomputable def so_sv (ws : Nat → Nat) (lv : so_L) : so_L := lv.map (fun q => (q.1, so_sb ws q.2))
noncomputable def so_sR (ws : Nat → Nat) (r : so_R) : so_R := match r with | .inl v => .inl (v.map (so_sb ws)) | .inr x => .inr x
noncomputable def so_sK (ws : Nat → Nat) (K : List so_F) : List so_F := K.map (fun f => (f.1, f.2.1, so_sv ws f.2.2.1, so_ss ws f.2.2.2))
noncomputable def so_sZ (ws : Nat → Nat) (Z : so_Z0) : so_Z0 := match Z with
  | .inl (q, lv, st, h, c, s) => .inl (q, so_sv ws lv, so_ss ws st, h, c, s)
  | .inr (.inl (x, as, lv, st, h, c, s)) => .inr (.inl (x, so_ss ws as, so_sv ws lv, so_ss ws st, h, c, s))
  | .inr (.inr (r, h, c, s)) => .inr (.inr (so_sR ws r, h, c, s))
/-- what is known: rows (which, a, b, what) -/
abbrev so_Q : Type := List (Nat × Nat × Nat × Nat)
noncomputable def so_fd (fs : so_Q) (k a b : Nat) : Option Nat := List.rec (motive := fun _ => Option Nat) none (fun e _ ih => so_if (and (Nat.beq e.1 k) (and (Nat.beq e.2.1 a) (Nat.beq e.2.2.1 b))) (some e.2.2.2) ih) fs
section
variable {β : Type}
noncomputable def so_n2 (st : List Nat) : Bool := List.rec (motive := fun _ => Bool) true (fun a st _ => so_if (so_nt a) (List.rec (motive := fun _ => Bool) true (fun b _ _ => so_nt b) st) false) st
/-- none of the two upper operands is a token -/
noncomputable def so_cw2 (op : so_W β) : so_W β := fun nx mm zz no q x y lv st h c s => so_if (so_n2 st) (op nx mm zz no q x y lv st h c s) no
noncomputable def so_t2 : so_W β := fun nx _ _ no q x _ lv st h c s => so_if (so_nt x) (nx q lv (x :: st) h c s) no
noncomputable def so_tj (nx : so_N β) (q y : Nat) (lv : so_L) (st : List Nat) (h : so_H) (c s v : Nat) : β := so_jmp nx q y lv st h c s (Nat.beq v 1)
noncomputable def so_t3a (fs : so_Q) (nx : so_N β) (no : β) (q x y : Nat) (lv : so_L) (h : so_H) (c s a : Nat) (st : List Nat) : β := so_if (so_nt a) (so_o3a nx no q x y lv h c s a st) (Option.rec (motive := fun _ => β) no (so_tj nx q y lv st h c s) (so_fd fs (Nat.add 100 x) a 0))
noncomputable def so_t3 (fs : so_Q) : so_W β := fun nx _ _ no q x y lv st h c s => so_1 no (so_t3a fs nx no q x y lv h c s) st
noncomputable def so_t4a (fs : so_Q) (nx : so_N β) (no : β) (q x y : Nat) (lv : so_L) (h : so_H) (c s a b : Nat) (st : List Nat) : β := so_if (and (so_nt a) (so_nt b)) (so_o4a nx no q x y lv h c s a b st) (so_if (and (so_int a) (so_int b)) (Option.rec (motive := fun _ => β) no (so_tj nx q y lv st h c s) (so_fd fs (Nat.add 100 x) a b)) no)
noncomputable def so_t4 (fs : so_Q) : so_W β := fun nx _ _ no q x y lv st h c s => so_2 no (so_t4a fs nx no q x y lv h c s) st
noncomputable def so_tv (nx : so_N β) (no : β) (q : Nat) (lv : so_L) (st : List Nat) (h : so_H) (c s v : Nat) : β := so_if (so_nt v) (nx q lv (v :: st) h c s) no
noncomputable def so_t35a (fs : so_Q) (nx : so_N β) (no : β) (q : Nat) (lv : so_L) (h : so_H) (c s a b : Nat) (st : List Nat) : β := so_if (and (so_nt a) (so_nt b)) (so_ar1 Nat.land nx no q lv h c s a b st) (so_if (and (so_int a) (so_int b)) (Option.rec (motive := fun _ => β) no (so_tv nx no q lv st h c s) (so_fd fs 35 a b)) no)
noncomputable def so_t35 (fs : so_Q) : so_W β := fun nx _ _ no q _ _ lv st h c s => so_2 no (so_t35a fs nx no q lv h c s) st
noncomputable def so_t6b (nx : so_N β) (no : β) (q x y : Nat) (lv : so_L) (h : so_H) (c s : Nat) (st : List Nat) (ci _n N : Nat) : β := so_if (Nat.beq ci x) (so_fn (so_ln 72 N y) (so_tv nx no q lv st h c s)) no
noncomputable def so_t6a (nx : so_N β) (no : β) (q x y : Nat) (lv : so_L) (h : so_H) (c s r : Nat) (st : List Nat) : β := so_at no (so_t6b nx no q x y lv h c s st) h r
noncomputable def so_t6 : so_W β := fun nx _ _ no q x y lv st h c s => so_1 no (so_t6a nx no q x y lv h c s) st
noncomputable def so_t8c (nx : so_N β) (no : β) (q x : Nat) (lv : so_L) (h : so_H) (c s : Nat) (st : List Nat) (v : Nat) : β := so_fn (so_if (Nat.beq x 1003) (Nat.mul 4 v) v) (so_tv nx no q lv st h c s)
noncomputable def so_t8b (nx : so_N β) (no : β) (q x y : Nat) (lv : so_L) (h : so_H) (c s j : Nat) (st : List Nat) (ci n N : Nat) : β := so_if (and (Nat.beq ci x) (Nat.blt (Nat.div j 4) n)) (so_fn (so_ln y N (Nat.div j 4)) (so_t8c nx no q x lv h c s st)) no
noncomputable def so_t8a (fs : so_Q) (nx : so_N β) (no : β) (q x y : Nat) (lv : so_L) (h : so_H) (c s r j : Nat) (st : List Nat) : β := so_if (and (so_int j) (so_nt j)) (so_if (Nat.beq r 1)
      (so_if (Nat.beq x 1003) (Option.rec (motive := fun _ => β) no (so_nxv nx q lv st h c s) (so_fd fs 8 j 0)) no)
      (so_at no (so_t8b nx no q x y lv h c s j st) h r)) no
noncomputable def so_t8 (fs : so_Q) : so_W β := fun nx _ _ no q x y lv st h c s => so_2 no (so_t8a fs nx no q x y lv h c s) st
noncomputable def so_t18a (nx : so_N β) (no : β) (q x y : Nat) (lv : so_L) (st : List Nat) (h : so_H) (c s v : Nat) : β := so_if (so_nt v) (so_o18a nx no q x y lv st h c s v) no
noncomputable def so_t18 : so_W β := fun nx _ _ no q x y lv st h c s => Option.rec (motive := fun _ => β) no (so_t18a nx no q x y lv st h c s) (so_find lv x)
noncomputable def so_t27b (nx : so_N β) (no : β) (q : Nat) (lv : so_L) (h : so_H) (c s : Nat) (st : List Nat) (ci n _N : Nat) : β := so_if (Nat.beq ci 1003) (so_fn (Nat.mul 4 n) (so_tv nx no q lv st h c s)) no
noncomputable def so_t27a (fs : so_Q) (nx : so_N β) (no : β) (q : Nat) (lv : so_L) (h : so_H) (c s r : Nat) (st : List Nat) : β := so_if (Nat.beq r 1) (Option.rec (motive := fun _ => β) no (so_tv nx no q lv st h c s) (so_fd fs 27 0 0)) (so_at no (so_t27b nx no q lv h c s st) h r)
noncomputable def so_t27 (fs : so_Q) : so_W β := fun nx _ _ no q _ _ lv st h c s => so_1 no (so_t27a fs nx no q lv h c s) st
end
/-- a row of what is known holds of the script and of what the tokens stand for -/
def so_hq (scr : List Nat) (ws : Nat → Nat) (e : Nat × Nat × Nat × Nat) : Prop :=
  (e.1 = 8 → ∃ w, so_nth scr (e.2.1 / 4) = some w ∧ 4 * w = so_sb ws e.2.2.2) ∧ (e.1 = 27 → 4 * so_len scr = e.2.2.2) ∧ (e.1 = 35 → 4 * Nat.land (so_sb ws e.2.1 / 4) (so_sb ws e.2.2.1 / 4) = e.2.2.2) ∧ (∀ d, e.1 = 100 + d → so_cnd d (so_sb ws e.2.1 / 4) (so_sb ws e.2.2.1 / 4) = Nat.beq e.2.2.2 1)
theorem so_fd_mem {fs : so_Q} {k a b v : Nat} (h : so_fd fs k a b = some v) : (k, a, b, v) ∈ fs := by
  induction fs with
  | nil => cases h
  | cons e t ih =>
    have h : so_if (and (Nat.beq e.1 k) (and (Nat.beq e.2.1 a) (Nat.beq e.2.2.1 b))) (some e.2.2.2) (so_fd t k a b) = some v := h
    cases hb : and (Nat.beq e.1 k) (and (Nat.beq e.2.1 a) (Nat.beq e.2.2.1 b)) with
    | false => rw [hb] at h; exact List.mem_cons_of_mem _ (ih h)
    | true =>
      rw [hb] at h
      obtain ⟨h1, h2⟩ := si_and hb
      obtain ⟨h3, h4⟩ := si_and h2
      have e1 := Nat.eq_of_beq_eq_true h1
      have e2 := Nat.eq_of_beq_eq_true h3
      have e3 := Nat.eq_of_beq_eq_true h4
      have e4 : e.2.2.2 = v := Option.some.inj h
      obtain ⟨a1, a2, a3, a4⟩ := e
      dsimp only at e1 e2 e3 e4
      subst e1 e2 e3 e4
      exact List.mem_cons_self
variable {ws : Nat → Nat}
theorem st_nt {v : Nat} (h : so_nt v = true) : so_sb ws v = v := by
  unfold so_nt at h
  unfold so_sb
  cases hb : so_tk v with
  | true => rw [hb] at h; cases h
  | false => rfl
theorem st_mod {v : Nat} (h : v % 4 ≠ 0) : so_nt v = true := by
  unfold so_nt so_tk
  have : Nat.beq (Nat.mod v 4) 0 = false := by
    cases hb : Nat.beq (Nat.mod v 4) 0 with
    | false => rfl
    | true => exact absurd (Nat.eq_of_beq_eq_true hb) h
  rw [this]
  cases Nat.ble 17179869184 v <;> rfl
theorem st_lt {v : Nat} (h : v < 17179869184) : so_nt v = true := by
  unfold so_nt so_tk
  have : Nat.ble 17179869184 v = false := by
    cases hb : Nat.ble 17179869184 v with
    | false => rfl
    | true => have := Nat.le_of_ble_eq_true hb; omega
  rw [this]
  rfl
theorem st_ntl {v : Nat} (h : so_nt v = true) (hi : so_int v = true) : v < 17179869184 := by
  by_cases hv : v < 17179869184
  · exact hv
  · unfold so_nt so_tk at h
    unfold so_int at hi
    rw [hi, Nat.ble_eq_true_of_le (Nat.le_of_not_lt hv)] at h
    cases h
theorem st_tk {v : Nat} (h : so_nt v = false) : so_int v = true ∧ so_sb ws v = 4 * ws v := by
  unfold so_nt at h
  cases hb : so_tk v with
  | false => rw [hb] at h; cases h
  | true =>
    refine ⟨(si_and hb).2, ?_⟩
    unfold so_sb
    rw [hb]
    rfl
theorem st_m4 (n : Nat) : so_int (4 * n) = true := by
  unfold so_int
  have : Nat.mod (4 * n) 4 = 0 := Nat.mul_mod_right 4 n
  rw [this]
  rfl
theorem st_by {P : Nat → Prop} (v : Nat) (h1 : P v) (h2 : so_int v = true → P (4 * ws v)) : P (so_sb ws v) := by
  cases hb : so_nt v with
  | true => rw [st_nt hb]; exact h1
  | false => rw [(st_tk (ws := ws) hb).2]; exact h2 (st_tk (ws := ws) hb).1
theorem st_int (v : Nat) : so_int (so_sb ws v) = so_int v := st_by (P := fun z => so_int z = so_int v) v rfl (fun h => by rw [st_m4, h])
theorem st_i0 {v : Nat} (h : so_int v = true) : v % 4 = 0 := Nat.eq_of_beq_eq_true h
theorem st_refn {v : Nat} (h : so_int v = true) : so_ref v = false := by
  unfold so_ref
  have : Nat.mod v 4 = 0 := st_i0 h
  rw [this]
  rfl
theorem st_ref (v : Nat) : so_ref (so_sb ws v) = so_ref v := st_by (P := fun z => so_ref z = so_ref v) v rfl (fun h => by rw [st_refn (st_m4 _), st_refn h])
theorem st_cat (v : Nat) : so_cat (so_sb ws v) = so_cat v := st_by (P := fun z => so_cat z = so_cat v) v rfl (fun h => by
  have e1 : Nat.mod v 4 = 0 := st_i0 h
  have e2 : Nat.mod (4 * ws v) 4 = 0 := st_i0 (st_m4 _)
  unfold so_cat
  rw [e1, e2])
theorem st_okv (n v : Nat) : so_okv n (so_sb ws v) = so_okv n v := st_by (P := fun z => so_okv n z = so_okv n v) v rfl (fun h => by
  unfold so_okv
  rw [st_refn (st_m4 _), st_refn h]
  rfl)
theorem st_isref {v : Nat} (h : so_ref v = true) : so_sb ws v = v := st_nt (st_mod (by
  have : v % 4 = 1 := Nat.eq_of_beq_eq_true h
  omega))
theorem st_isbo {v : Nat} (h : so_bo v = true) : so_sb ws v = v := by
  refine st_nt (st_lt ?_)
  unfold so_bo at h
  cases h1 : Nat.beq v 0 with
  | true => rw [Nat.eq_of_beq_eq_true h1]; decide
  | false =>
    rw [h1] at h
    rw [Nat.eq_of_beq_eq_true h]; decide
theorem st_bo {v : Nat} (h : so_bo v = true) : so_bo (so_sb ws v) = true := by rw [st_isbo h]; exact h
theorem st_find (lv : so_L) (x : Nat) : so_find (so_sv ws lv) x = (so_find lv x).map (so_sb ws) := by
  induction lv with
  | nil => rfl
  | cons a t ih =>
    show so_if (Nat.beq a.1 x) (some (so_sb ws a.2)) (so_find (so_sv ws t) x) = (so_if (Nat.beq a.1 x) (some a.2) (so_find t x)).map (so_sb ws)
    cases Nat.beq a.1 x with
    | true => rfl
    | false => exact ih
theorem st_put (lv : so_L) (x v : Nat) : so_put (so_sv ws lv) x (so_sb ws v) = so_sv ws (so_put lv x v) := by
  induction lv with
  | nil => rfl
  | cons a t ih =>
    show so_if (Nat.beq a.1 x) ((x, so_sb ws v) :: so_sv ws t) ((a.1, so_sb ws a.2) :: so_put (so_sv ws t) x (so_sb ws v)) = so_sv ws (so_if (Nat.beq a.1 x) ((x, v) :: t) (a :: so_put t x v))
    rw [ih]
    cases Nat.beq a.1 x <;> rfl
theorem st_all {p : Nat → Bool} (hp : ∀ v, p (so_sb ws v) = p v) (st : List Nat) : so_all p (so_ss ws st) = so_all p st := by
  induction st with
  | nil => rfl
  | cons a t ih =>
    show so_if (p (so_sb ws a)) (so_all p (so_ss ws t)) false = so_if (p a) (so_all p t) false
    rw [hp, ih]
theorem st_okl (n : Nat) (lv : so_L) : so_okl n (so_sv ws lv) = so_okl n lv := by
  induction lv with
  | nil => rfl
  | cons a t ih =>
    show so_if (so_okv n (so_sb ws a.2)) (so_okl n (so_sv ws t)) false = so_if (so_okv n a.2) (so_okl n t) false
    rw [st_okv, ih]
theorem st_ct (st : List Nat) : so_ct (so_ss ws st) = so_ct st := by
  induction st with
  | nil => rfl
  | cons a t ih =>
    show so_if (so_cat (so_sb ws a)) 1 2 + so_ct (so_ss ws t) = so_if (so_cat a) 1 2 + so_ct t
    rw [st_cat, ih]
theorem st_len (st : List Nat) : (so_ss ws st).length = st.length := List.length_map _
theorem st_args (as : List Nat) : ∀ i, so_args (so_ss ws as) i = so_sv ws (so_args as i) := by
  induction as with
  | nil => intro i; rfl
  | cons a t ih =>
    intro i
    show (i, so_sb ws a) :: so_args (so_ss ws t) (Nat.succ i) = (i, so_sb ws a) :: so_sv ws (so_args t (Nat.succ i))
    rw [ih]
/-- forward -/
theorem sf_if {α : Type} {b : Bool} {a c : α} (h : b = true) : so_if b a c = a := by subst h; rfl
theorem sf_ifn {α : Type} {b : Bool} {a c : α} (h : b = false) : so_if b a c = c := by subst h; rfl
theorem sf_and {a b : Bool} (h1 : a = true) (h2 : b = true) : and a b = true := by subst h1 h2; rfl
theorem sf_at {α : Type} {no : α} {k : Nat → Nat → Nat → α} {h : so_H} {r ci n N : Nat} (h1 : so_ref r = true) (h2 : so_get h (r / 4) = some (ci, n, N)) : so_at no k h r = k ci n N := by
  unfold so_at
  rw [sf_if h1]
  have e1 : Nat.div r 4 = r / 4 := rfl
  rw [e1, h2]
theorem sf_split {α : Type} {no : α} {k : List Nat → List Nat → α} : ∀ (as acc t : List Nat), so_split no k as.length acc (as ++ t) = k (as.reverse ++ acc) t := by
  intro as
  induction as with
  | nil => intro acc t; rfl
  | cons a as ih =>
    intro acc t
    show so_split no k as.length (a :: acc) (as ++ t) = _
    rw [ih, List.reverse_cons, List.append_assoc]
    rfl
theorem sf_lane (w N i : Nat) : so_ln w N i < 2 ^ w := Nat.mod_lt _ (Nat.two_pow_pos w)
variable {q x y : Nat} {lv : so_L} {st : List Nat} {h : so_H} {c s : Nat} {Z : so_Z0}
theorem sf_mk {o : so_O} {n : Nat} (h1 : so_okh (so_hlen h) h = true) (h2 : so_okl (so_hlen h) lv = true) (h3 : so_all (so_okv (so_hlen h)) st = true) : so_mk so_ynx none q lv st h c s o n = some (.inl (q, lv, (4 * so_hlen h + 1) :: st, so_push h o, c + 1, s + n)) := by
  unfold so_mk
  rw [so_fn_eq]
  unfold so_mk1
  rw [sf_if (sf_and h1 (sf_and h2 h3)), so_fn_eq]
  unfold so_mk2
  rw [so_fn_eq]
  unfold so_mk3
  rw [so_fn_eq, so_pushk_eq]
  rfl
theorem sf_wr {r ci n N : Nat} : so_wr so_ynx q lv st h c s r ci n N = some (.inl (q, lv, st, so_upd h (r / 4) (ci, n, N), c, s)) := by
  unfold so_wr
  rw [so_updk_eq]
  rfl
theorem sf_ok {as : List Nat} (h1 : so_all so_cat as = true) (h2 : so_ct st ≤ 8) (h3 : so_okl (so_hlen h) lv = true) (h4 : so_all (so_okv (so_hlen h)) st = true) : so_ok so_ymm none x lv h c s as st = some (.inr (.inl (x, as, lv, st, h, c, s))) := by
  unfold so_ok
  rw [so_fn_eq]
  unfold so_okb
  rw [sf_if (sf_and (sf_and h1 (Nat.ble_eq_true_of_le h2)) (sf_and h3 h4))]
  rfl
/-- a token machine's instruction and the machine's -/
def so_sim (ws : Nat → Nat) (T O : so_W so_Y) : Prop := ∀ (q x y : Nat) (lv : so_L) (st : List Nat) (h : so_H) (c s : Nat) (Z : so_Z0), T so_ynx so_ymm so_yzz none q x y lv st h c s = some Z → O so_ynx so_ymm so_yzz none q x y (so_sv ws lv) (so_ss ws st) h c s = some (so_sZ ws Z)
theorem sk_n2 {v : Nat} {t : List Nat} (h : so_n2 (v :: t) = true) : so_nt v = true := (so_if_t h).1
theorem sk_n22 {v w : Nat} {t : List Nat} (h : so_n2 (v :: w :: t) = true) : so_nt v = true ∧ so_nt w = true := so_if_t h
theorem sk_0 {t : Nat → Bool} (ht : ∀ v, t (so_sb ws v) = t v) : so_sim ws (so_o0 t) (so_o0 t) := by
  intro q x y lv st h c s Z hh
  obtain ⟨v, h1, h2, rfl⟩ := si0 hh
  unfold so_o0
  rw [st_find, h1]
  show so_if (t (so_sb ws v)) _ none = _
  rw [sf_if ((ht v).trans h2)]
  rfl
theorem sk_1 {t : Nat → Bool} (ht : ∀ v, t (so_sb ws v) = t v) : so_sim ws (so_o1 t) (so_o1 t) := by
  intro q x y lv st h c s Z hh
  obtain ⟨v, st1, rfl, h2, rfl⟩ := si1 hh
  show so_if (t (so_sb ws v)) _ none = _
  rw [sf_if ((ht v).trans h2), so_putk_eq, st_put]
  rfl
theorem sk_2 : so_sim ws so_t2 so_o2 := by
  intro q x y lv st h c s Z hh
  obtain ⟨h1, h2⟩ := si_if (b := so_nt x) hh
  have e := Option.some.inj h2
  subst e
  show some (Sum.inl (q, so_sv ws lv, x :: so_ss ws st, h, c, s)) = some (Sum.inl (q, so_sv ws lv, so_sb ws x :: so_ss ws st, h, c, s))
  rw [st_nt h1]
theorem sk_jmp {b : Bool} {t : List Nat} (hh : so_jmp so_ynx q y lv t h c s b = some Z) : so_jmp so_ynx q y (so_sv ws lv) (so_ss ws t) h c s b = some (so_sZ ws Z) := by
  cases b
  · have e := Option.some.inj hh
    subst e
    rfl
  · have e := Option.some.inj hh
    subst e
    rfl
variable {scr : List Nat} {fs : so_Q}
theorem sk_3 (hf : ∀ e ∈ fs, so_hq scr ws e) : so_sim ws (so_t3 fs) so_o3 := by
  intro q x y lv st h c s Z hh
  obtain ⟨a, t, rfl, h1⟩ := si_1 hh
  unfold so_t3a at h1
  cases hb : so_nt a with
  | true =>
    rw [sf_if hb] at h1
    obtain ⟨h2, h3⟩ := si_if h1
    show so_if (so_int (so_sb ws a)) (so_jmp so_ynx q y (so_sv ws lv) (so_ss ws t) h c s (so_cnd x (Nat.div (so_sb ws a) 4) 0)) none = _
    rw [sf_if ((st_int a).trans h2), st_nt hb]
    exact sk_jmp h3
  | false =>
    rw [sf_ifn hb] at h1
    obtain ⟨h2, h3⟩ := st_tk (ws := ws) hb
    cases hv : so_fd fs (Nat.add 100 x) a 0 with
    | none => rw [hv] at h1; cases h1
    | some v =>
      rw [hv] at h1
      have h4 := (hf _ (so_fd_mem hv)).2.2.2 x rfl
      show so_if (so_int (so_sb ws a)) (so_jmp so_ynx q y (so_sv ws lv) (so_ss ws t) h c s (so_cnd x (so_sb ws a / 4) 0)) none = _
      rw [sf_if ((st_int a).trans h2)]
      have e0 : so_sb ws 0 / 4 = 0 := by rw [st_nt (st_lt (by decide))]
      dsimp only at h4
      rw [e0] at h4
      rw [h4]
      exact sk_jmp h1
theorem sk_4 (hf : ∀ e ∈ fs, so_hq scr ws e) : so_sim ws (so_t4 fs) so_o4 := by
  intro q x y lv st h c s Z hh
  obtain ⟨b, a, t, rfl, h1⟩ := si_2 hh
  unfold so_t4a at h1
  cases hb : and (so_nt a) (so_nt b) with
  | true =>
    rw [sf_if hb] at h1
    obtain ⟨h2, h3⟩ := si_if h1
    obtain ⟨h4, h5⟩ := si_and h2
    obtain ⟨h6, h7⟩ := si_and hb
    show so_if (and (so_int (so_sb ws a)) (so_int (so_sb ws b))) (so_jmp so_ynx q y (so_sv ws lv) (so_ss ws t) h c s (so_cnd x (Nat.div (so_sb ws a) 4) (Nat.div (so_sb ws b) 4))) none = _
    rw [sf_if (sf_and ((st_int a).trans h4) ((st_int b).trans h5)), st_nt h6, st_nt h7]
    exact sk_jmp h3
  | false =>
    rw [sf_ifn hb] at h1
    obtain ⟨h2, h3⟩ := si_if h1
    obtain ⟨h4, h5⟩ := si_and h2
    cases hv : so_fd fs (Nat.add 100 x) a b with
    | none => rw [hv] at h3; cases h3
    | some v =>
      rw [hv] at h3
      have h6 := (hf _ (so_fd_mem hv)).2.2.2 x rfl
      dsimp only at h6
      show so_if (and (so_int (so_sb ws a)) (so_int (so_sb ws b))) (so_jmp so_ynx q y (so_sv ws lv) (so_ss ws t) h c s (so_cnd x (so_sb ws a / 4) (so_sb ws b / 4))) none = _
      rw [sf_if (sf_and ((st_int a).trans h4) ((st_int b).trans h5)), h6]
      exact sk_jmp h3
theorem sk_5 : so_sim ws so_o5 so_o5 := by
  intro q x y lv st h c s Z hh
  have e := si5 (q := q) (x := x) hh
  subst e
  rfl
/-- a value that is no token is pushed -/
theorem sk_tv {v : Nat} {t : List Nat} (hh : so_tv so_ynx none q lv t h c s v = some Z) : so_nt v = true ∧ Z = .inl (q, lv, v :: t, h, c, s) := by
  obtain ⟨h1, h2⟩ := si_if hh
  exact ⟨h1, (Option.some.inj h2).symm⟩
theorem sk_pu {v : Nat} {t : List Nat} (hv : so_nt v = true) : some (Sum.inl (q, so_sv ws lv, v :: so_ss ws t, h, c, s)) = some (so_sZ ws (.inl (q, lv, v :: t, h, c, s))) := by
  show _ = some (Sum.inl (q, so_sv ws lv, so_sb ws v :: so_ss ws t, h, c, s))
  rw [st_nt hv]
theorem sk_6 : so_sim ws so_t6 so_o6 := by
  intro q x y lv st h c s Z hh
  obtain ⟨r, t, rfl, h1⟩ := si_1 hh
  obtain ⟨h2, ci, n, N, h3, h4⟩ := si_at h1
  obtain ⟨h5, h6⟩ := si_if h4
  rw [so_fn_eq] at h6
  obtain ⟨h7, rfl⟩ := sk_tv h6
  show so_at none _ h (so_sb ws r) = _
  rw [st_isref h2, sf_at h2 h3]
  unfold so_o6b
  rw [sf_if h5, so_fn_eq]
  exact sk_pu h7
theorem sk_7 {t : Nat → Bool} (ht : ∀ v, t v = true → so_sb ws v = v) : so_sim ws (so_o7 t) (so_o7 t) := by
  intro q x y lv st h c s Z hh
  obtain ⟨v, r, st1, n, N, rfl, h2, h3, h4, h5, rfl⟩ := si7 hh
  show so_at none (so_o7b t so_ynx none q x y (so_sv ws lv) h c s (so_sb ws v) (so_sb ws r) (so_ss ws st1)) h (so_sb ws r) = _
  rw [st_isref h2, ht v h4, sf_at h2 h3]
  unfold so_o7b
  rw [sf_if (b := and (Nat.beq x x) (and (t v) (Nat.blt v 4722366482869645213696))) (sf_and (Nat.beq_refl x) (sf_and h4 (so_blt.mpr h5))), so_fn_eq, sf_wr]
  rfl
theorem sk_c2 {op : so_W so_Y} (hop : ∀ (q x y : Nat) (lv : so_L) (st : List Nat) (h : so_H) (c s : Nat) (Z : so_Z0), so_n2 st = true → op so_ynx so_ymm so_yzz none q x y lv st h c s = some Z → op so_ynx so_ymm so_yzz none q x y (so_sv ws lv) (so_ss ws st) h c s = some (so_sZ ws Z)) : so_sim ws (so_cw2 op) op := by
  intro q x y lv st h c s Z hh
  obtain ⟨h1, h2⟩ := si_if (b := so_n2 st) hh
  exact hop q x y lv st h c s Z h1 h2
theorem sk_7i : so_sim ws (so_cw2 (so_o7 so_int)) (so_o7 so_int) := by
  refine sk_c2 (fun q x y lv st h c s Z hn hh => ?_)
  obtain ⟨v, r, st1, n, N, rfl, h2, h3, h4, h5, rfl⟩ := si7 hh
  show so_at none (so_o7b so_int so_ynx none q x y (so_sv ws lv) h c s (so_sb ws v) (so_sb ws r) (so_ss ws st1)) h (so_sb ws r) = _
  rw [st_isref h2, st_nt (sk_n2 hn), sf_at h2 h3]
  unfold so_o7b
  rw [sf_if (b := and (Nat.beq x x) (and (so_int v) (Nat.blt v 4722366482869645213696))) (sf_and (Nat.beq_refl x) (sf_and h4 (so_blt.mpr h5))), so_fn_eq, sf_wr]
  rfl
theorem sk_8 (hf : ∀ e ∈ fs, so_hq scr ws e) : so_sim ws (so_t8 fs) (so_o8 scr) := by
  intro q x y lv st h c s Z hh
  obtain ⟨j, r, t, rfl, h1⟩ := si_2 hh
  unfold so_t8a at h1
  obtain ⟨h2, h3⟩ := si_if h1
  obtain ⟨h4, h5⟩ := si_and h2
  show so_o8a scr so_ynx none q x y (so_sv ws lv) h c s (so_sb ws r) (so_sb ws j) (so_ss ws t) = _
  unfold so_o8a
  rw [st_nt h5, sf_if h4]
  cases hr : Nat.beq r 1 with
  | true =>
    have e := Nat.eq_of_beq_eq_true hr
    subst e
    rw [sf_if hr] at h3
    obtain ⟨h6, h7⟩ := si_if h3
    have e1 : so_sb ws 1 = 1 := st_nt (st_lt (by decide))
    rw [e1, sf_if hr, sf_if h6]
    cases hv : so_fd fs 8 j 0 with
    | none => rw [hv] at h7; cases h7
    | some v =>
      rw [hv] at h7
      obtain ⟨w, g1, g2⟩ := (hf _ (so_fd_mem hv)).1 rfl
      dsimp only at g1 g2
      have e2 : Nat.div j 4 = j / 4 := rfl
      have e3 := Option.some.inj h7
      subst e3
      rw [e2, g1]
      show some (Sum.inl (q, so_sv ws lv, (4 * w) :: so_ss ws t, h, c, s)) = some (Sum.inl (q, so_sv ws lv, so_sb ws v :: so_ss ws t, h, c, s))
      rw [g2]
  | false =>
    rw [sf_ifn hr] at h3
    obtain ⟨g1, ci, n, N, g2, g3⟩ := si_at h3
    obtain ⟨g4, g5⟩ := si_if g3
    rw [so_fn_eq] at g5
    unfold so_t8c at g5
    rw [so_fn_eq] at g5
    obtain ⟨g6, rfl⟩ := sk_tv g5
    rw [st_isref g1, sf_ifn hr, sf_at g1 g2]
    unfold so_o8b
    rw [sf_if g4, so_fn_eq]
    exact sk_pu g6
theorem sk_9 : so_sim ws (so_cw2 so_o9) so_o9 := by
  refine sk_c2 (fun q x y lv st h c s Z hn hh => ?_)
  obtain ⟨v, j, r, t, n, N, rfl, a1, a2, a3, a4, a5, rfl⟩ := si9 (x := x) (y := y) hh
  obtain ⟨n1, n2⟩ := sk_n22 hn
  show so_o9a so_ynx none q (so_sv ws lv) h c s (so_sb ws v) (so_sb ws r) (so_sb ws j) (so_ss ws t) = _
  unfold so_o9a
  rw [st_isref a3, st_nt n1, st_nt n2, sf_if (sf_and a1 a2), sf_at a3 a4]
  unfold so_o9b
  rw [sf_if (b := and (Nat.beq 1003 1003) (Nat.blt (Nat.div j 4) n)) (sf_and (Nat.beq_refl _) (so_blt.mpr a5)), so_fn_eq, sf_wr]
  rfl
theorem sk_23 : so_sim ws (so_cw2 so_o23) so_o23 := by
  refine sk_c2 (fun q x y lv st h c s Z hn hh => ?_)
  obtain ⟨v, j, r, t, n, N, rfl, a1, a2, a3, a4, a5, a6, rfl⟩ := si23 (y := y) hh
  obtain ⟨n1, n2⟩ := sk_n22 hn
  show so_o23a so_ynx none q x y (so_sv ws lv) h c s (so_sb ws v) (so_sb ws r) (so_sb ws j) (so_ss ws t) = _
  unfold so_o23a
  have b1 : Nat.beq (Nat.mod v 4) 3 = true := by
    have : Nat.mod v 4 = 3 := a1
    rw [this]
    rfl
  rw [st_isref a3, st_nt n1, st_nt n2, sf_if (sf_and b1 a2), sf_at a3 a4]
  unfold so_o23b
  rw [sf_if (b := and (and (Nat.beq x x) (Nat.blt (Nat.div j 4) n)) (Nat.blt v 4722366482869645213696)) (sf_and (sf_and (Nat.beq_refl _) (so_blt.mpr a5)) (so_blt.mpr a6)), so_fn_eq, sf_wr]
  rfl
theorem sk_13 {cls : Nat → Nat × Nat} : so_sim ws (so_o13 cls) (so_o13 cls) := by
  intro q x y lv st h c s Z hh
  obtain ⟨g1, g2, g3, rfl⟩ := si13 (y := y) hh
  show so_mk so_ynx none q (so_sv ws lv) (so_ss ws st) h c s (x, (cls x).1, (cls x).2) (cls x).1 = _
  rw [sf_mk g1 ((st_okl _ lv).trans g2) ((st_all (st_okv _) st).trans g3)]
  exact sk_pu (st_mod (by omega))
theorem sk_14 : so_sim ws (so_cw2 so_o14) so_o14 := by
  refine sk_c2 (fun q x y lv st h c s Z hn hh => ?_)
  obtain ⟨v, t, rfl, h1⟩ := si_1 hh
  obtain ⟨h2, h3⟩ := si_if h1
  rw [so_fn_eq] at h3
  obtain ⟨g1, g2, g3, rfl⟩ := si_mk h3
  show so_o14a so_ynx none q x (so_sv ws lv) h c s (so_sb ws v) (so_ss ws t) = _
  unfold so_o14a
  rw [st_nt (sk_n2 hn), sf_if h2, so_fn_eq]
  unfold so_o14b
  rw [sf_mk g1 ((st_okl _ lv).trans g2) ((st_all (st_okv _) t).trans g3)]
  exact sk_pu (st_mod (by omega))
theorem sk_16 : so_sim ws so_o16 so_o16 := by
  intro q x y lv st h c s Z hh
  obtain ⟨v, t, rfl, a1, rfl⟩ := si16 (x := x) (y := y) hh
  show so_if (so_cat (so_sb ws v)) _ none = _
  rw [sf_if ((st_cat v).trans a1)]
  rfl
theorem sk_17 {t : Nat → Bool} (ht : ∀ v, t (so_sb ws v) = t v) : so_sim ws (so_o17 t) (so_o17 t) := by
  intro q x y lv st h c s Z hh
  obtain ⟨v, t1, rfl, a1, rfl⟩ := si17 (x := x) (y := y) hh
  show so_if (t (so_sb ws v)) _ none = _
  rw [sf_if ((ht v).trans a1)]
  rfl
theorem sk_57 : so_sim ws so_o57 so_o57 := by
  intro q x y lv st h c s Z hh
  obtain ⟨v, t, rfl, a1, a2, rfl⟩ := si57 (x := x) (y := y) hh
  show so_if (and (so_ref (so_sb ws v)) (Nat.ble (so_len (so_ss ws t)) 4)) _ none = _
  rw [sf_if (sf_and ((st_ref v).trans a1) (by rw [so_len_eq, st_len]; exact Nat.ble_eq_true_of_le a2))]
  rfl
theorem sk_18 : so_sim ws so_t18 so_o18 := by
  intro q x y lv st h c s Z hh
  unfold so_t18 at hh
  cases hv : so_find lv x with
  | none => rw [hv] at hh; cases hh
  | some v =>
    rw [hv] at hh
    obtain ⟨h1, h2⟩ := si_if (b := so_nt v) hh
    obtain ⟨h3, h4⟩ := si_if h2
    rw [so_fn_eq] at h4
    unfold so_o18b at h4
    rw [so_putk_eq] at h4
    have e := Option.some.inj h4
    subst e
    unfold so_o18
    rw [st_find, hv]
    show so_o18a so_ynx none q x y (so_sv ws lv) (so_ss ws st) h c s (so_sb ws v) = _
    unfold so_o18a
    rw [st_nt h1, sf_if h3, so_fn_eq]
    unfold so_o18b
    have hn : so_nt (Nat.mul 4 (so_add (Nat.div v 4) y)) = true := st_lt (by
      have : so_add (Nat.div v 4) y < 4294967296 := Nat.mod_lt _ (by decide)
      show 4 * _ < _
      omega)
    rw [so_putk_eq]
    have e2 := st_put (ws := ws) lv x (Nat.mul 4 (so_add (Nat.div v 4) y))
    rw [st_nt hn] at e2
    rw [e2]
    rfl
theorem sk_19 : so_sim ws (so_cw2 so_o19) so_o19 := by
  refine sk_c2 (fun q x y lv st h c s Z hn hh => ?_)
  obtain ⟨v, t, rfl, h1⟩ := si_1 hh
  obtain ⟨h2, h3⟩ := si_if h1
  rw [so_fn_eq] at h3
  have e := Option.some.inj h3
  subst e
  show so_o19a so_ynx none q (so_sv ws lv) h c s (so_sb ws v) (so_ss ws t) = _
  unfold so_o19a
  rw [st_nt (sk_n2 hn), sf_if h2, so_fn_eq]
  exact sk_pu (st_mod (by
    show (4 * _ + 3) % 4 ≠ 0
    omega))
theorem sk_22 : so_sim ws so_o22 so_o22 := by
  intro q x y lv st h c s Z hh
  obtain ⟨b, a, t, rfl, h1⟩ := si_2 hh
  obtain ⟨h2, h3⟩ := si_if h1
  have e := Option.some.inj h3
  subst e
  obtain ⟨h4, h5⟩ := si_and h2
  obtain ⟨h6, h7⟩ := si_and h4
  have n1 : so_nt a = true := st_mod (by have : a % 4 = 3 := Nat.eq_of_beq_eq_true h6; omega)
  have n2 : so_nt b = true := st_mod (by have : b % 4 = 3 := Nat.eq_of_beq_eq_true h7; omega)
  show so_o22a so_ynx none q (so_sv ws lv) h c s (so_sb ws a) (so_sb ws b) (so_ss ws t) = _
  unfold so_o22a
  rw [st_nt n1, st_nt n2, sf_if h2]
  refine sk_pu (st_lt ?_)
  cases Nat.beq a b with
  | true =>
    show 0 < 17179869184
    decide
  | false =>
    cases Nat.blt (so_big (Nat.div a 4)) (so_big (Nat.div b 4)) with
    | true =>
      show 17179869180 < 17179869184
      decide
    | false =>
      show 4 < 17179869184
      decide
theorem sk_27 (hf : ∀ e ∈ fs, so_hq scr ws e) : so_sim ws (so_t27 fs) (so_o27 scr) := by
  intro q x y lv st h c s Z hh
  obtain ⟨r, t, rfl, h3⟩ := si_1 hh
  unfold so_t27a at h3
  show so_o27a scr so_ynx none q (so_sv ws lv) h c s (so_sb ws r) (so_ss ws t) = _
  unfold so_o27a
  cases hr : Nat.beq r 1 with
  | true =>
    have e := Nat.eq_of_beq_eq_true hr
    subst e
    rw [sf_if hr] at h3
    have e1 : so_sb ws 1 = 1 := st_nt (st_lt (by decide))
    rw [e1, sf_if hr, so_fn_eq]
    cases hv : so_fd fs 27 0 0 with
    | none => rw [hv] at h3; cases h3
    | some v =>
      rw [hv] at h3
      obtain ⟨g1, rfl⟩ := sk_tv h3
      have g2 := (hf _ (so_fd_mem hv)).2.1 rfl
      dsimp only at g2
      show some (Sum.inl (q, so_sv ws lv, (4 * so_len scr) :: so_ss ws t, h, c, s)) = _
      rw [g2]
      exact sk_pu g1
  | false =>
    rw [sf_ifn hr] at h3
    obtain ⟨h4, ci, n, N, h5, h6⟩ := si_at h3
    obtain ⟨h7, h8⟩ := si_if h6
    rw [so_fn_eq] at h8
    obtain ⟨h9, rfl⟩ := sk_tv h8
    rw [st_isref h4, sf_ifn hr, sf_at h4 h5]
    unfold so_o27b
    rw [sf_if h7]
    exact sk_pu h9
theorem sk_28 {sw : Nat → Nat} : so_sim ws (so_cw2 (so_o28 sw)) (so_o28 sw) := by
  refine sk_c2 (fun q x y lv st h c s Z hn hh => ?_)
  obtain ⟨v, t, rfl, h1⟩ := si_1 hh
  obtain ⟨h2, h3⟩ := si_if h1
  rw [so_fn_eq] at h3
  have e := Option.some.inj h3
  subst e
  show so_o28a sw so_ynx none (so_sv ws lv) h c s (so_sb ws v) (so_ss ws t) = _
  unfold so_o28a
  rw [st_nt (sk_n2 hn), sf_if h2, so_fn_eq]
  rfl
theorem sk_30 : so_sim ws (so_cw2 so_o30) so_o30 := by
  refine sk_c2 (fun q x y lv st h c s Z hn hh => ?_)
  obtain ⟨n, dp, b, t1, rfl, h1⟩ := si_3 hh
  obtain ⟨sp, a, t, rfl, h2⟩ := si_2 h1
  obtain ⟨h3, h4⟩ := si_if h2
  obtain ⟨h5, h6⟩ := si_and h3
  obtain ⟨h7, h8⟩ := si_and h5
  obtain ⟨h9, h10⟩ := si_and h7
  obtain ⟨h11, h12⟩ := si_and h6
  have e1 := Nat.eq_of_beq_eq_true h8
  have e2 := Nat.eq_of_beq_eq_true h11
  subst e1
  subst e2
  obtain ⟨g1, ka, na, Na, g2, g3⟩ := si_at h4
  obtain ⟨g4, kb, nb, Nb, g5, g6⟩ := si_at g3
  obtain ⟨g7, g8⟩ := si_if g6
  rw [so_fn_eq, sf_wr] at g8
  have e := Option.some.inj g8
  subst e
  have z0 : so_sb ws 0 = 0 := st_nt (st_lt (by decide))
  show so_o30a so_ynx none q (so_sv ws lv) h c s (so_sb ws n) (so_sb ws 0) (so_sb ws b) (so_sb ws a) (so_sb ws 0) (so_ss ws t) = _
  unfold so_o30a
  rw [st_nt (sk_n2 hn), z0, st_isref g1, st_isref g4]
  have l1 : Nat.ble (so_len (so_ss ws t)) 4 = true := by rw [so_len_eq, st_len, ← so_len_eq]; exact h10
  rw [sf_if (sf_and (sf_and (sf_and h9 l1) h8) (sf_and h11 h12)), sf_at g1 g2]
  unfold so_o30b
  rw [sf_at g4 g5]
  unfold so_o30c
  rw [sf_if g7, so_fn_eq, sf_wr]
  rfl
theorem sk_ar {f : Nat → Nat → Nat} (hf : ∀ a b, a < 4294967296 → b < 4294967296 → f a b < 4294967296) : so_sim ws (so_cw2 (so_ar f)) (so_ar f) := by
  refine sk_c2 (fun q x y lv st h c s Z hn hh => ?_)
  obtain ⟨b, a, t, rfl, h1, h2, rfl⟩ := siar (x := x) (y := y) hh
  obtain ⟨n1, n2⟩ := sk_n22 hn
  show so_ar1 f so_ynx none q (so_sv ws lv) h c s (so_sb ws a) (so_sb ws b) (so_ss ws t) = _
  unfold so_ar1
  rw [st_nt n1, st_nt n2, sf_if (sf_and h1 h2), so_fn_eq]
  have l1 := st_ntl n2 h1
  have l2 := st_ntl n1 h2
  have := hf (a / 4) (b / 4) (by omega) (by omega)
  refine sk_pu (st_lt ?_)
  show 4 * f (a / 4) (b / 4) < _
  omega
theorem sk_mx {f : Nat → Nat → Nat} (hf : ∀ a b, a < 4294967296 → b < 4294967296 → f a b < 4294967296) : so_sim ws (so_cw2 (so_mx f)) (so_mx f) := by
  refine sk_c2 (fun q x y lv st h c s Z hn hh => ?_)
  obtain ⟨b, a, t, rfl, h1, h2, h3, rfl⟩ := simx (x := x) (y := y) hh
  obtain ⟨n1, n2⟩ := sk_n22 hn
  show so_mx1 f so_ynx none q (so_sv ws lv) h c s (so_sb ws a) (so_sb ws b) (so_ss ws t) = _
  unfold so_mx1
  rw [st_nt n1, st_nt n2, sf_if (sf_and (sf_and h1 h2) (by rw [so_len_eq, st_len]; exact Nat.ble_eq_true_of_le h3)), so_fn_eq]
  have l1 := st_ntl n2 h1
  have l2 := st_ntl n1 h2
  have := hf (a / 4) (b / 4) (by omega) (by omega)
  refine sk_pu (st_lt ?_)
  show 4 * f (a / 4) (b / 4) < _
  omega
theorem so_max_lt (a b : Nat) (ha : a < 4294967296) (hb : b < 4294967296) : so_max a b < 4294967296 := by
  unfold so_max
  cases so_lt a b
  · exact ha
  · exact hb
theorem so_min_lt (a b : Nat) (ha : a < 4294967296) (hb : b < 4294967296) : so_min a b < 4294967296 := by
  unfold so_min
  cases so_lt b a
  · exact ha
  · exact hb
theorem sk_35 (hf : ∀ e ∈ fs, so_hq scr ws e) : so_sim ws (so_t35 fs) (so_ar Nat.land) := by
  intro q x y lv st h c s Z hh
  obtain ⟨b, a, t, rfl, h1⟩ := si_2 hh
  unfold so_t35a at h1
  show so_ar1 Nat.land so_ynx none q (so_sv ws lv) h c s (so_sb ws a) (so_sb ws b) (so_ss ws t) = _
  unfold so_ar1
  cases hb : and (so_nt a) (so_nt b) with
  | true =>
    rw [sf_if hb] at h1
    obtain ⟨h2, h3⟩ := si_if h1
    rw [so_fn_eq] at h3
    have e := Option.some.inj h3
    subst e
    obtain ⟨h4, h5⟩ := si_and h2
    obtain ⟨h6, h7⟩ := si_and hb
    rw [st_nt h6, st_nt h7, sf_if h2, so_fn_eq]
    have l1 := st_ntl h6 h4
    have := Nat.and_le_left (n := a / 4) (m := b / 4)
    refine sk_pu (st_lt ?_)
    show 4 * (a / 4 &&& b / 4) < _
    omega
  | false =>
    rw [sf_ifn hb] at h1
    obtain ⟨h2, h3⟩ := si_if h1
    obtain ⟨h4, h5⟩ := si_and h2
    cases hv : so_fd fs 35 a b with
    | none => rw [hv] at h3; cases h3
    | some v =>
      rw [hv] at h3
      obtain ⟨g1, rfl⟩ := sk_tv h3
      have g2 := (hf _ (so_fd_mem hv)).2.2.1 rfl
      dsimp only at g2
      rw [sf_if (sf_and ((st_int a).trans h4) ((st_int b).trans h5)), so_fn_eq]
      show some (Sum.inl (q, so_sv ws lv, (4 * Nat.land (so_sb ws a / 4) (so_sb ws b / 4)) :: so_ss ws t, h, c, s)) = _
      rw [g2]
      exact sk_pu g1
theorem sk_11 {t : Nat → Bool} (ht : ∀ v, t v = true → t (so_sb ws v) = true) : so_sim ws (so_o11 t) (so_o11 t) := by
  intro q x y lv st h c s Z hh
  obtain ⟨v, rfl, h2, rfl⟩ := si11 (q := q) (x := x) (y := y) (lv := lv) hh
  show so_if (t (so_sb ws v)) _ none = _
  rw [sf_if (ht v h2)]
  rfl
theorem sk_12 : so_sim ws so_o12 so_o12 := by
  intro q x y lv st h c s Z hh
  obtain ⟨rfl, rfl⟩ := si12 (q := q) (x := x) (y := y) (lv := lv) hh
  rfl
theorem sk_15 : so_sim ws so_o15 so_o15 := by
  intro q x y lv st h c s Z hh
  obtain ⟨h1, rfl⟩ := si15 (q := q) (y := y) (lv := lv) hh
  show so_if (Nat.ble (so_len (so_ss ws st)) 4) _ none = _
  rw [sf_if (by rw [so_len_eq, st_len]; exact Nat.ble_eq_true_of_le h1)]
  rfl
theorem st_rev (as t : List Nat) : so_ss ws (as.reverse ++ t) = (so_ss ws as).reverse ++ so_ss ws t := by
  unfold so_ss
  rw [List.map_append, List.map_reverse]
theorem sf_rev {α : Type} {no : α} {k : List Nat → List Nat → α} {n : Nat} {as t : List Nat} (hn : as.length = n) : so_split no k n [] (as.reverse ++ t) = k as t := by
  have := sf_split (no := no) (k := k) as.reverse [] t
  rw [List.length_reverse, hn, List.reverse_reverse, List.append_nil] at this
  exact this
theorem sk_20 : so_sim ws so_o20 so_o20 := by
  intro q x y lv st h c s Z hh
  obtain ⟨as, t, rfl, h1, h2, h3, h4, h5, rfl⟩ := si20 (q := q) hh
  show so_split none (so_ok so_ymm none x (so_sv ws lv) h c s) y [] (so_ss ws (as.reverse ++ t)) = _
  rw [st_rev, sf_rev ((st_len as).trans h1), sf_ok ((st_all st_cat as).trans h2) (by rw [st_ct]; exact h3) ((st_okl _ lv).trans h4) ((st_all (st_okv _) t).trans h5)]
  rfl
theorem sk_21 : so_sim ws so_o21 so_o21 := by
  intro q x y lv st h c s Z hh
  obtain ⟨r, as, t, rfl, h1, h0, h2, h3, h4, h5, rfl⟩ := si21 (q := q) hh
  show so_split none (so_o21a so_ymm none x (so_sv ws lv) h c s) y [] (so_ss ws ((r :: as).reverse ++ t)) = _
  rw [st_rev, sf_rev ((st_len (r :: as)).trans h1)]
  show so_if (so_ref (so_sb ws r)) (so_ok so_ymm none x (so_sv ws lv) h c s (so_ss ws (r :: as)) (so_ss ws t)) none = _
  rw [sf_if ((st_ref r).trans h0), sf_ok ((st_all st_cat (r :: as)).trans h2) (by rw [st_ct]; exact h3) ((st_okl _ lv).trans h4) ((st_all (st_okv _) t).trans h5)]
  rfl
theorem sk_10 : so_sim ws so_o10 so_o10 := by
  intro q x y lv st h c s Z hh
  obtain ⟨r, as, t, n, N, rfl, h1, h0, g0, h2, h3, h4, h5, rfl⟩ := si10 (q := q) hh
  show so_split none (so_o10a so_ymm none x (y / 100) (so_sv ws lv) h c s) (y % 100) [] (so_ss ws ((r :: as).reverse ++ t)) = _
  rw [st_rev, sf_rev ((st_len (r :: as)).trans h1)]
  show so_at none (so_o10c so_ymm none x (y / 100) (so_sv ws lv) h c s (so_ss ws (r :: as)) (so_ss ws t)) h (so_sb ws r) = _
  rw [st_isref h0, sf_at h0 g0]
  unfold so_o10c
  rw [sf_if (Nat.beq_refl _), sf_ok ((st_all st_cat (r :: as)).trans h2) (by rw [st_ct]; exact h3) ((st_okl _ lv).trans h4) ((st_all (st_okv _) t).trans h5)]
  rfl
theorem sk_bad : so_sim ws so_bad so_bad := by
  intro q x y lv st h c s Z hh
  cases hh
theorem sk_br {k n : Nat} {a b a' b' : so_W so_Y} (h1 : so_sim ws a a') (h2 : so_sim ws b b') : so_sim ws (so_br k n a b) (so_br k n a' b') := by
  unfold so_br
  cases Nat.blt k n
  · exact h2
  · exact h1
end SMT
