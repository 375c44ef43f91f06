/-! ===== what an instruction of the small machine has done, read back ===== -/
section SMI
variable {q x y : Nat} {lv : so_L} {st : List Nat} {h : so_H} {c s : Nat} {scr : List Nat}
abbrev so_Z0 : Type := (Nat × so_L × List Nat × so_H × Nat × Nat) ⊕ ((Nat × List Nat × so_L × List Nat × so_H × Nat × Nat) ⊕ (so_R × so_H × Nat × Nat))
variable {Z : so_Z0}
theorem si_if {α : Type} {b : Bool} {a : Option α} {z : α} (hh : so_if b a none = some z) : b = true ∧ a = some z := by
  cases b
  · cases hh
  · exact ⟨rfl, hh⟩
theorem si_1 {α : Type} {k : Nat → List Nat → Option α} {z : α} (hh : so_1 none k st = some z) : ∃ v t, st = v :: t ∧ k v t = some z := by
  cases st with
  | nil => cases hh
  | cons v t => exact ⟨v, t, rfl, hh⟩
theorem si_2 {α : Type} {k : Nat → Nat → List Nat → Option α} {z : α} (hh : so_2 none k st = some z) : ∃ b a t, st = b :: a :: t ∧ k a b t = some z := by
  cases st with
  | nil => cases hh
  | cons b st => cases st with
    | nil => cases hh
    | cons a t => exact ⟨b, a, t, rfl, hh⟩
theorem si_3 {α : Type} {k : Nat → Nat → Nat → List Nat → Option α} {z : α} (hh : so_3 none k st = some z) : ∃ v b a t, st = v :: b :: a :: t ∧ k v a b t = some z := by
  cases st with
  | nil => cases hh
  | cons v st =>
    have hh : so_2 none (k v) st = some z := hh
    obtain ⟨b, a, t, rfl, h1⟩ := si_2 hh
    exact ⟨v, b, a, t, rfl, h1⟩
theorem si_at {α : Type} {k : Nat → Nat → Nat → Option α} {r : Nat} {z : α} (hh : so_at none k h r = some z) : so_ref r = true ∧ ∃ ci n N, so_get h (r / 4) = some (ci, n, N) ∧ k ci n N = some z := by
  unfold so_at at hh
  obtain ⟨h1, h2⟩ := si_if hh
  refine ⟨h1, ?_⟩
  have e1 : Nat.div r 4 = r / 4 := rfl
  rw [e1] at h2
  cases hg : so_get h (r / 4) with
  | none => rw [hg] at h2; cases h2
  | some o =>
    rw [hg] at h2
    obtain ⟨ci, n, N⟩ := o
    exact ⟨ci, n, N, rfl, h2⟩
theorem si_and {a b : Bool} (hh : and a b = true) : a = true ∧ b = true := by
  cases a <;> cases b <;> first | exact ⟨rfl, rfl⟩ | cases hh
theorem si0 {t : Nat → Bool} (hh : so_o0 t so_ynx so_ymm so_yzz none q x y lv st h c s = some Z) : ∃ v, so_find lv x = some v ∧ t v = true ∧ Z = .inl (q, lv, v :: st, h, c, s) := by
  unfold so_o0 at hh
  cases hv : so_find lv x with
  | none => rw [hv] at hh; cases hh
  | some v =>
    rw [hv] at hh
    obtain ⟨h1, h2⟩ := si_if hh
    exact ⟨v, rfl, h1, (Option.some.inj h2).symm⟩
theorem si1 {t : Nat → Bool} (hh : so_o1 t so_ynx so_ymm so_yzz none q x y lv st h c s = some Z) : ∃ v st1, st = v :: st1 ∧ t v = true ∧ Z = .inl (q, so_put lv x v, st1, h, c, s) := by
  obtain ⟨v, st1, rfl, h1⟩ := si_1 hh
  obtain ⟨h2, h3⟩ := si_if h1
  rw [so_putk_eq] at h3
  exact ⟨v, st1, rfl, h2, (Option.some.inj h3).symm⟩
theorem si2 (hh : so_o2 so_ynx so_ymm so_yzz none q x y lv st h c s = some Z) : Z = .inl (q, lv, x :: st, h, c, s) := (Option.some.inj hh).symm
theorem siar {f : Nat → Nat → Nat} (hh : so_ar f so_ynx so_ymm so_yzz none q x y lv st h c s = some Z) : ∃ b a t, st = b :: a :: t ∧ so_int a = true ∧ so_int b = true ∧ Z = .inl (q, lv, 4 * f (a / 4) (b / 4) :: t, h, c, s) := by
  obtain ⟨b, a, t, rfl, h1⟩ := si_2 hh
  obtain ⟨h2, h3⟩ := si_if h1
  rw [so_fn_eq] at h3
  obtain ⟨h4, h5⟩ := si_and h2
  exact ⟨b, a, t, rfl, h4, h5, (Option.some.inj h3).symm⟩
theorem simx {f : Nat → Nat → Nat} (hh : so_mx f so_ynx so_ymm so_yzz none q x y lv st h c s = some Z) : ∃ b a t, st = b :: a :: t ∧ so_int a = true ∧ so_int b = true ∧ t.length ≤ 4 ∧ Z = .inl (q, lv, 4 * f (a / 4) (b / 4) :: t, h, c, s) := by
  obtain ⟨b, a, t, rfl, h1⟩ := si_2 hh
  obtain ⟨h2, h3⟩ := si_if h1
  rw [so_fn_eq] at h3
  obtain ⟨h4, h5⟩ := si_and h2
  obtain ⟨h6, h7⟩ := si_and h4
  rw [so_len_eq] at h5
  exact ⟨b, a, t, rfl, h6, h7, Nat.le_of_ble_eq_true h5, (Option.some.inj h3).symm⟩
theorem si_jmp {b : Bool} (hh : so_jmp so_ynx q y lv st h c s b = some Z) : Z = .inl (so_if b y q, lv, st, h, c, s) := by
  cases b <;> exact (Option.some.inj hh).symm
theorem si3 (hh : so_o3 so_ynx so_ymm so_yzz none q x y lv st h c s = some Z) : ∃ a t, st = a :: t ∧ so_int a = true ∧ Z = .inl (so_if (so_cnd x (a / 4) 0) y q, lv, t, h, c, s) := by
  obtain ⟨a, t, rfl, h1⟩ := si_1 hh
  obtain ⟨h2, h3⟩ := si_if h1
  exact ⟨a, t, rfl, h2, si_jmp h3⟩
theorem si4 (hh : so_o4 so_ynx so_ymm so_yzz none q x y lv st h c s = some Z) : ∃ b a t, st = b :: a :: t ∧ so_int a = true ∧ so_int b = true ∧ Z = .inl (so_if (so_cnd x (a / 4) (b / 4)) y q, lv, t, h, c, s) := by
  obtain ⟨b, a, t, rfl, h1⟩ := si_2 hh
  obtain ⟨h2, h3⟩ := si_if h1
  obtain ⟨h4, h5⟩ := si_and h2
  exact ⟨b, a, t, rfl, h4, h5, si_jmp h3⟩
theorem si5 (hh : so_o5 so_ynx so_ymm so_yzz none q x y lv st h c s = some Z) : Z = .inl (y, lv, st, h, c, s) := (Option.some.inj hh).symm
theorem si6 (hh : so_o6 so_ynx so_ymm so_yzz none q x y lv st h c s = some Z) : ∃ r t n N, st = r :: t ∧ so_ref r = true ∧ so_get h (r / 4) = some (x, n, N) ∧ Z = .inl (q, lv, so_ln 72 N y :: t, h, c, s) := by
  obtain ⟨r, t, rfl, h1⟩ := si_1 hh
  obtain ⟨h2, ci, n, N, h3, h4⟩ := si_at h1
  obtain ⟨h5, h6⟩ := si_if h4
  rw [so_fn_eq] at h6
  have := Nat.eq_of_beq_eq_true h5
  subst this
  exact ⟨r, t, n, N, rfl, h2, h3, (Option.some.inj h6).symm⟩
theorem si_wr {r ci n N : Nat} (hh : so_wr so_ynx q lv st h c s r ci n N = some Z) : Z = .inl (q, lv, st, so_upd h (r / 4) (ci, n, N), c, s) := by
  unfold so_wr at hh
  rw [so_updk_eq] at hh
  exact (Option.some.inj hh).symm
theorem si7 {t : Nat → Bool} (hh : so_o7 t so_ynx so_ymm so_yzz none q x y lv st h c s = some Z) : ∃ v r st1 n N, st = v :: r :: st1 ∧ so_ref r = true ∧ so_get h (r / 4) = some (x, n, N) ∧ t v = true ∧ v < 2 ^ 72 ∧ Z = .inl (q, lv, st1, so_upd h (r / 4) (x, n, so_up 72 N y v), c, s) := by
  obtain ⟨v, r, st1, rfl, h1⟩ := si_2 hh
  obtain ⟨h2, ci, n, N, h3, h4⟩ := si_at h1
  obtain ⟨h5, h6⟩ := si_if h4
  obtain ⟨h7, h8⟩ := si_and h5
  obtain ⟨h9, h10⟩ := si_and h8
  rw [so_fn_eq] at h6
  have := Nat.eq_of_beq_eq_true h7
  subst this
  exact ⟨v, r, st1, n, N, rfl, h2, h3, h9, so_blt.mp h10, si_wr h6⟩
theorem si8 (hh : so_o8 scr so_ynx so_ymm so_yzz none q x y lv st h c s = some Z) : ∃ j r t, st = j :: r :: t ∧ so_int j = true ∧ ((r = 1 ∧ x = 1003 ∧ ∃ w, so_nth scr (j / 4) = some w ∧ Z = .inl (q, lv, 4 * w :: t, h, c, s)) ∨
    (so_ref r = true ∧ ∃ n N, so_get h (r / 4) = some (x, n, N) ∧ j / 4 < n ∧ Z = .inl (q, lv, so_if (Nat.beq x 1003) (4 * so_ln y N (j / 4)) (so_ln y N (j / 4)) :: t, h, c, s))) := by
  obtain ⟨j, r, t, rfl, h1⟩ := si_2 hh
  obtain ⟨h2, h3⟩ := si_if h1
  refine ⟨j, r, t, rfl, h2, ?_⟩
  cases hr : Nat.beq r 1 with
  | true =>
    rw [hr] at h3
    obtain ⟨h4, h5⟩ := si_if (b := Nat.beq x 1003) h3
    refine Or.inl ⟨Nat.eq_of_beq_eq_true hr, Nat.eq_of_beq_eq_true h4, ?_⟩
    have e1 : Nat.div j 4 = j / 4 := rfl
    rw [e1] at h5
    cases hw : so_nth scr (j / 4) with
    | none => rw [hw] at h5; cases h5
    | some w => rw [hw] at h5; exact ⟨w, rfl, (Option.some.inj h5).symm⟩
  | false =>
    rw [hr] at h3
    obtain ⟨h4, ci, n, N, h5, h6⟩ := si_at (h := h) (r := r) h3
    obtain ⟨h7, h8⟩ := si_if h6
    obtain ⟨h9, h10⟩ := si_and h7
    rw [so_fn_eq] at h8
    have := Nat.eq_of_beq_eq_true h9
    subst this
    exact Or.inr ⟨h4, n, N, h5, so_blt.mp h10, (Option.some.inj h8).symm⟩
theorem si9 (hh : so_o9 so_ynx so_ymm so_yzz none q x y lv st h c s = some Z) : ∃ v j r t n N, st = v :: j :: r :: t ∧ so_int v = true ∧ so_int j = true ∧ so_ref r = true ∧ so_get h (r / 4) = some (1003, n, N) ∧ j / 4 < n ∧ Z = .inl (q, lv, t, so_upd h (r / 4) (1003, n, so_up 32 N (j / 4) (v / 4 % 4294967296)), c, s) := by
  obtain ⟨v, j, r, t, rfl, h1⟩ := si_3 hh
  obtain ⟨h2, h3⟩ := si_if h1
  obtain ⟨h4, h5⟩ := si_and h2
  obtain ⟨h6, ci, n, N, h7, h8⟩ := si_at h3
  obtain ⟨h9, h10⟩ := si_if h8
  obtain ⟨h11, h12⟩ := si_and h9
  rw [so_fn_eq] at h10
  have := Nat.eq_of_beq_eq_true h11
  subst this
  exact ⟨v, j, r, t, n, N, rfl, h4, h5, h6, h7, so_blt.mp h12, si_wr h10⟩
theorem si23 (hh : so_o23 so_ynx so_ymm so_yzz none q x y lv st h c s = some Z) : ∃ v j r t n N, st = v :: j :: r :: t ∧ v % 4 = 3 ∧ so_int j = true ∧ so_ref r = true ∧ so_get h (r / 4) = some (x, n, N) ∧ j / 4 < n ∧ v < 2 ^ 72 ∧ Z = .inl (q, lv, t, so_upd h (r / 4) (x, n, so_up 72 N (j / 4) v), c, s) := by
  obtain ⟨v, j, r, t, rfl, h1⟩ := si_3 hh
  obtain ⟨h2, h3⟩ := si_if h1
  obtain ⟨h4, h5⟩ := si_and h2
  obtain ⟨h6, ci, n, N, h7, h8⟩ := si_at h3
  obtain ⟨h9, h10⟩ := si_if h8
  obtain ⟨h11, h12⟩ := si_and h9
  obtain ⟨h13, h14⟩ := si_and h11
  rw [so_fn_eq] at h10
  have := Nat.eq_of_beq_eq_true h13
  subst this
  exact ⟨v, j, r, t, n, N, rfl, Nat.eq_of_beq_eq_true h4, h5, h6, h7, so_blt.mp h14, so_blt.mp h12, si_wr h10⟩
theorem si_mk {o : so_O} {n : Nat} (hh : so_mk so_ynx none q lv st h c s o n = some Z) : so_okh (so_hlen h) h = true ∧ so_okl (so_hlen h) lv = true ∧ so_all (so_okv (so_hlen h)) st = true ∧ Z = .inl (q, lv, (4 * so_hlen h + 1) :: st, so_push h o, c + 1, s + n) := by
  unfold so_mk at hh
  rw [so_fn_eq] at hh
  obtain ⟨h1, h2⟩ := si_if hh
  obtain ⟨h3, h4⟩ := si_and h1
  obtain ⟨h5, h6⟩ := si_and h4
  rw [so_fn_eq] at h2
  unfold so_mk2 at h2
  rw [so_fn_eq] at h2
  unfold so_mk3 at h2
  rw [so_fn_eq, so_pushk_eq] at h2
  exact ⟨h3, h5, h6, (Option.some.inj h2).symm⟩
theorem si13 {cls : Nat → Nat × Nat} (hh : so_o13 cls so_ynx so_ymm so_yzz none q x y lv st h c s = some Z) : so_okh (so_hlen h) h = true ∧ so_okl (so_hlen h) lv = true ∧ so_all (so_okv (so_hlen h)) st = true ∧ Z = .inl (q, lv, (4 * so_hlen h + 1) :: st, so_push h (x, (cls x).1, (cls x).2), c + 1, s + (cls x).1) := by
  unfold so_o13 at hh
  exact si_mk (o := (x, (cls x).1, (cls x).2)) (n := (cls x).1) hh
theorem si14 (hh : so_o14 so_ynx so_ymm so_yzz none q x y lv st h c s = some Z) : ∃ v t, st = v :: t ∧ so_int v = true ∧ v / 4 < 1000000 ∧ (x = 1000 → v = 4) ∧ so_okh (so_hlen h) h = true ∧ so_okl (so_hlen h) lv = true ∧ so_all (so_okv (so_hlen h)) t = true ∧ Z = .inl (q, lv, (4 * so_hlen h + 1) :: t, so_push h (x, v / 4, so_if (Nat.beq x 1000) 55340232221128654848 0), c + 1, s + v / 4) := by
  obtain ⟨v, t, rfl, h1⟩ := si_1 hh
  obtain ⟨h2, h3⟩ := si_if h1
  obtain ⟨h4, h5⟩ := si_and h2
  obtain ⟨h6, h7⟩ := si_and h4
  rw [so_fn_eq] at h3
  obtain ⟨g1, g2, g3, g4⟩ := si_mk h3
  refine ⟨v, t, rfl, h6, so_blt.mp h7, fun hx => ?_, g1, g2, g3, g4⟩
  subst hx
  have h5 : (or (not (Nat.beq 1000 1000)) (Nat.beq v 4)) = true := h5
  rw [Nat.beq_refl] at h5
  exact Nat.eq_of_beq_eq_true h5
theorem si16 (hh : so_o16 so_ynx so_ymm so_yzz none q x y lv st h c s = some Z) : ∃ v t, st = v :: t ∧ so_cat v = true ∧ Z = .inl (q, lv, v :: v :: t, h, c, s) := by
  obtain ⟨v, t, rfl, h1⟩ := si_1 hh
  obtain ⟨h2, h3⟩ := si_if h1
  exact ⟨v, t, rfl, h2, (Option.some.inj h3).symm⟩
theorem si17 {t : Nat → Bool} (hh : so_o17 t so_ynx so_ymm so_yzz none q x y lv st h c s = some Z) : ∃ v st1, st = v :: st1 ∧ t v = true ∧ Z = .inl (q, lv, st1, h, c, s) := by
  obtain ⟨v, st1, rfl, h1⟩ := si_1 hh
  obtain ⟨h2, h3⟩ := si_if h1
  exact ⟨v, st1, rfl, h2, (Option.some.inj h3).symm⟩
theorem si57 (hh : so_o57 so_ynx so_ymm so_yzz none q x y lv st h c s = some Z) : ∃ v t, st = v :: t ∧ so_ref v = true ∧ t.length ≤ 4 ∧ Z = .inl (q, lv, t, h, c, s) := by
  obtain ⟨v, t, rfl, h1⟩ := si_1 hh
  obtain ⟨h2, h3⟩ := si_if h1
  obtain ⟨h4, h5⟩ := si_and h2
  rw [so_len_eq] at h5
  exact ⟨v, t, rfl, h4, Nat.le_of_ble_eq_true h5, (Option.some.inj h3).symm⟩
theorem si18 (hh : so_o18 so_ynx so_ymm so_yzz none q x y lv st h c s = some Z) : ∃ v, so_find lv x = some v ∧ so_int v = true ∧ Z = .inl (q, so_put lv x (4 * so_add (v / 4) y), st, h, c, s) := by
  unfold so_o18 at hh
  cases hv : so_find lv x with
  | none => rw [hv] at hh; cases hh
  | some v =>
    rw [hv] at hh
    obtain ⟨h1, h2⟩ := si_if hh
    rw [so_fn_eq] at h2
    unfold so_o18b at h2
    rw [so_putk_eq] at h2
    exact ⟨v, rfl, h1, (Option.some.inj h2).symm⟩
theorem si19 (hh : so_o19 so_ynx so_ymm so_yzz none q x y lv st h c s = some Z) : ∃ v t, st = v :: t ∧ so_int v = true ∧ Z = .inl (q, lv, (4 * (so_if (so_neg (v / 4 % 4294967296)) (v / 4 % 4294967296 + 18446744069414584320) (v / 4 % 4294967296)) + 3) :: t, h, c, s) := by
  obtain ⟨v, t, rfl, h1⟩ := si_1 hh
  obtain ⟨h2, h3⟩ := si_if h1
  rw [so_fn_eq] at h3
  exact ⟨v, t, rfl, h2, (Option.some.inj h3).symm⟩
theorem si22 (hh : so_o22 so_ynx so_ymm so_yzz none q x y lv st h c s = some Z) : ∃ b a t, st = b :: a :: t ∧ a % 4 = 3 ∧ b % 4 = 3 ∧ a < 2 ^ 66 ∧ b < 2 ^ 66 ∧ Z = .inl (q, lv, so_if (Nat.beq a b) 0 (so_if (Nat.blt (so_big (a / 4)) (so_big (b / 4))) 17179869180 4) :: t, h, c, s) := by
  obtain ⟨b, a, t, rfl, h1⟩ := si_2 hh
  obtain ⟨h2, h3⟩ := si_if h1
  obtain ⟨h4, h5⟩ := si_and h2
  obtain ⟨h6, h7⟩ := si_and h4
  obtain ⟨h8, h9⟩ := si_and h5
  exact ⟨b, a, t, rfl, Nat.eq_of_beq_eq_true h6, Nat.eq_of_beq_eq_true h7, so_blt.mp h8, so_blt.mp h9, (Option.some.inj h3).symm⟩
theorem si27 (hh : so_o27 scr so_ynx so_ymm so_yzz none q x y lv st h c s = some Z) : ∃ r t, st = r :: t ∧ ((r = 1 ∧ Z = .inl (q, lv, 4 * so_len scr :: t, h, c, s)) ∨ (so_ref r = true ∧ ∃ n N, so_get h (r / 4) = some (1003, n, N) ∧ Z = .inl (q, lv, 4 * n :: t, h, c, s))) := by
  obtain ⟨r, t, rfl, h3⟩ := si_1 hh
  refine ⟨r, t, rfl, ?_⟩
  unfold so_o27a at h3
  cases hr : Nat.beq r 1 with
  | true =>
    rw [hr] at h3
    have h3 : so_fn (so_len scr) (so_nxi so_ynx q lv t h c s) = some Z := h3
    rw [so_fn_eq] at h3
    exact Or.inl ⟨Nat.eq_of_beq_eq_true hr, (Option.some.inj h3).symm⟩
  | false =>
    rw [hr] at h3
    obtain ⟨h4, ci, n, N, h5, h6⟩ := si_at (h := h) (r := r) h3
    obtain ⟨h7, h8⟩ := si_if h6
    have := Nat.eq_of_beq_eq_true h7
    subst this
    exact Or.inr ⟨h4, n, N, h5, (Option.some.inj h8).symm⟩
theorem si28 {sw : Nat → Nat} (hh : so_o28 sw so_ynx so_ymm so_yzz none q x y lv st h c s = some Z) : ∃ v t, st = v :: t ∧ so_int v = true ∧ v / 4 < 2 ^ 32 ∧ Z = .inl (sw (v / 4), lv, t, h, c, s) := by
  obtain ⟨v, t, rfl, h1⟩ := si_1 hh
  obtain ⟨h2, h3⟩ := si_if h1
  obtain ⟨h4, h5⟩ := si_and h2
  rw [so_fn_eq] at h3
  exact ⟨v, t, rfl, h4, so_blt.mp h5, (Option.some.inj h3).symm⟩
theorem si30 (hh : so_o30 so_ynx so_ymm so_yzz none q x y lv st h c s = some Z) : ∃ n b a t na Na nb Nb, st = n :: 0 :: b :: 0 :: a :: t ∧ so_int n = true ∧ t.length ≤ 4 ∧ so_ref a = true ∧ so_ref b = true ∧ so_get h (a / 4) = some (1003, na, Na) ∧ so_get h (b / 4) = some (1003, nb, Nb) ∧ n / 4 ≤ na ∧ n / 4 ≤ nb ∧ Z = .inl (q, lv, t, so_upd h (b / 4) (1003, nb, so_cp Na Nb (32 * (n / 4))), c, s) := by
  obtain ⟨n, dp, b, t1, rfl, h1⟩ := si_3 hh
  obtain ⟨sp, a, t, rfl, h2⟩ := si_2 h1
  obtain ⟨h3, h4⟩ := si_if h2
  obtain ⟨h5, h6⟩ := si_and h3
  obtain ⟨h7, h8⟩ := si_and h5
  obtain ⟨h9, h10⟩ := si_and h7
  obtain ⟨h11, h12⟩ := si_and h6
  have e1 := Nat.eq_of_beq_eq_true h8
  have e2 := Nat.eq_of_beq_eq_true h11
  subst e1
  subst e2
  rw [so_len_eq] at h10
  obtain ⟨g1, ka, na, Na, g2, g3⟩ := si_at h4
  obtain ⟨g4, kb, nb, Nb, g5, g6⟩ := si_at g3
  obtain ⟨g7, g8⟩ := si_if g6
  obtain ⟨k1, k2⟩ := si_and g7
  obtain ⟨k3, k4⟩ := si_and k1
  obtain ⟨k5, k6⟩ := si_and k2
  have e3 := Nat.eq_of_beq_eq_true k3
  have e4 := Nat.eq_of_beq_eq_true k4
  subst e3
  subst e4
  rw [so_fn_eq] at g8
  exact ⟨n, b, a, t, na, Na, nb, Nb, rfl, h9, Nat.le_of_ble_eq_true h10, g1, g4, g2, g5, Nat.le_of_ble_eq_true k5, Nat.le_of_ble_eq_true k6, si_wr g8⟩
theorem si11 {t : Nat → Bool} (hh : so_o11 t so_ynx so_ymm so_yzz none q x y lv st h c s = some Z) : ∃ v, st = [v] ∧ t v = true ∧ Z = .inr (.inr (.inl (some v), h, c, s)) := by
  obtain ⟨v, st1, rfl, h1⟩ := si_1 hh
  cases st1 with
  | nil =>
    obtain ⟨h2, h3⟩ := si_if (b := t v) h1
    exact ⟨v, rfl, h2, (Option.some.inj h3).symm⟩
  | cons a b => cases h1
theorem si12 (hh : so_o12 so_ynx so_ymm so_yzz none q x y lv st h c s = some Z) : st = [] ∧ Z = .inr (.inr (.inl none, h, c, s)) := by
  cases st with
  | nil => exact ⟨rfl, (Option.some.inj hh).symm⟩
  | cons a b => cases hh
theorem si15 (hh : so_o15 so_ynx so_ymm so_yzz none q x y lv st h c s = some Z) : st.length ≤ 4 ∧ Z = .inr (.inr (.inr x, h, c + 1, s + 6)) := by
  obtain ⟨h1, h2⟩ := si_if hh
  rw [so_len_eq] at h1
  exact ⟨Nat.le_of_ble_eq_true h1, (Option.some.inj h2).symm⟩
theorem si_split {α : Type} {k : List Nat → List Nat → Option α} {z : α} : ∀ (n : Nat) (acc l : List Nat), so_split none k n acc l = some z → ∃ as t, l = as ++ t ∧ as.length = n ∧ k (as.reverse ++ acc) t = some z := by
  intro n
  induction n with
  | zero => intro acc l hh; exact ⟨[], l, rfl, rfl, hh⟩
  | succ n ih =>
    intro acc l hh
    cases l with
    | nil => cases hh
    | cons a t =>
      obtain ⟨as, t1, rfl, h2, h3⟩ := ih (a :: acc) t hh
      refine ⟨a :: as, t1, rfl, by rw [List.length_cons, h2], ?_⟩
      rw [List.reverse_cons, List.append_assoc]
      exact h3
theorem si_ok {as : List Nat} (hh : so_ok so_ymm none x lv h c s as st = some Z) : so_all so_cat as = true ∧ so_ct st ≤ 8 ∧ so_okl (so_hlen h) lv = true ∧ so_all (so_okv (so_hlen h)) st = true ∧ Z = .inr (.inl (x, as, lv, st, h, c, s)) := by
  unfold so_ok at hh
  rw [so_fn_eq] at hh
  obtain ⟨h1, h2⟩ := si_if hh
  obtain ⟨h3, h4⟩ := si_and h1
  obtain ⟨h5, h6⟩ := si_and h3
  obtain ⟨h7, h8⟩ := si_and h4
  exact ⟨h5, Nat.le_of_ble_eq_true h6, h7, h8, (Option.some.inj h2).symm⟩
theorem si20 (hh : so_o20 so_ynx so_ymm so_yzz none q x y lv st h c s = some Z) : ∃ as t, st = as.reverse ++ t ∧ as.length = y ∧ so_all so_cat as = true ∧ so_ct t ≤ 8 ∧ so_okl (so_hlen h) lv = true ∧ so_all (so_okv (so_hlen h)) t = true ∧ Z = .inr (.inl (x, as, lv, t, h, c, s)) := by
  obtain ⟨as, t, rfl, h1, h2⟩ := si_split y [] st hh
  rw [List.append_nil] at h2
  obtain ⟨g1, g2, g3, g4, g5⟩ := si_ok h2
  exact ⟨as.reverse, t, by rw [List.reverse_reverse], by rw [List.length_reverse]; exact h1, g1, g2, g3, g4, g5⟩
theorem si21 (hh : so_o21 so_ynx so_ymm so_yzz none q x y lv st h c s = some Z) : ∃ r as t, st = (r :: as).reverse ++ t ∧ (r :: as).length = y ∧ so_ref r = true ∧ so_all so_cat (r :: as) = true ∧ so_ct t ≤ 8 ∧ so_okl (so_hlen h) lv = true ∧ so_all (so_okv (so_hlen h)) t = true ∧ Z = .inr (.inl (x, r :: as, lv, t, h, c, s)) := by
  obtain ⟨as, t, rfl, h1, h2⟩ := si_split y [] st hh
  rw [List.append_nil] at h2
  have e1 : as.reverse.reverse = as := List.reverse_reverse as
  have e2 : as.reverse.length = y := by rw [List.length_reverse]; exact h1
  revert h2 e1 e2
  generalize as.reverse = bs
  intro h2 e1 e2
  cases bs with
  | nil => cases h2
  | cons r bs =>
    obtain ⟨g1, g5⟩ := si_if (b := so_ref r) h2
    obtain ⟨k1, k2, k3, k4, k5⟩ := si_ok g5
    exact ⟨r, bs, t, by rw [e1], e2, g1, k1, k2, k3, k4, k5⟩
theorem si10 (hh : so_o10 so_ynx so_ymm so_yzz none q x y lv st h c s = some Z) : ∃ r as t n N, st = (r :: as).reverse ++ t ∧ (r :: as).length = y % 100 ∧ so_ref r = true ∧ so_get h (r / 4) = some (y / 100, n, N) ∧ so_all so_cat (r :: as) = true ∧ so_ct t ≤ 8 ∧ so_okl (so_hlen h) lv = true ∧ so_all (so_okv (so_hlen h)) t = true ∧ Z = .inr (.inl (x, r :: as, lv, t, h, c, s)) := by
  obtain ⟨as, t, rfl, h1, h2⟩ := si_split (y % 100) [] st hh
  rw [List.append_nil] at h2
  have e1 : as.reverse.reverse = as := List.reverse_reverse as
  have e2 : as.reverse.length = y % 100 := by rw [List.length_reverse]; exact h1
  revert h2 e1 e2
  generalize as.reverse = bs
  intro h2 e1 e2
  cases bs with
  | nil => cases h2
  | cons r bs =>
    obtain ⟨g1, ci, n, N, g2, g3⟩ := si_at (h := h) (r := r) h2
    obtain ⟨g4, g5⟩ := si_if g3
    have e3 : ci = y / 100 := Nat.eq_of_beq_eq_true g4
    subst e3
    obtain ⟨k1, k2, k3, k4, k5⟩ := si_ok g5
    exact ⟨r, bs, t, n, N, by rw [e1], e2, g1, g2, k1, k2, k3, k4, k5⟩
end SMI
