/-! ===== more words: a check stays true ===== -/
section SMO
variable {T1 T2 : List Cond} {cl : List vw_C} {own mn : String} {i : Instr} {o x y len nL pc j n N maxL : Nat}
theorem sq_dec (hT : ∀ w ∈ T1, w ∈ T2) {w : Cond} (h : decide (w ∈ T1) = true) : decide (w ∈ T2) = true := decide_eq_true (hT w (of_decide_eq_true h))
theorem sq_ck2 (hT : ∀ w ∈ T1, w ∈ T2) (h : so_ck2 T1 own i x len = true) : so_ck2 T2 own i x len = true := by
  unfold so_ck2 at h ⊢
  split at h
  · exact h
  · exact h
  · exact h
  · exact h
  · rw [Bool.and_eq_true] at h ⊢
    exact ⟨h.1, sq_dec hT h.2⟩
  · rw [Bool.and_eq_true] at h ⊢
    exact ⟨h.1, sq_dec hT h.2⟩
  · cases h
theorem sq_ck6 (hT : ∀ w ∈ T1, w ∈ T2) (h : so_ck6 T1 cl own j x y len = true) : so_ck6 T2 cl own j x y len = true := by
  unfold so_ck6 at h ⊢
  rw [Bool.and_eq_true] at h ⊢
  refine ⟨h.1, ?_⟩
  have h2 := h.2
  cases hq : cl[x]? with
  | none => rw [hq] at h2; cases h2
  | some q =>
    rw [hq] at h2
    simp only [Bool.and_eq_true] at h2 ⊢
    exact ⟨h2.1, sq_dec hT h2.2⟩
theorem sq_ck7 {ty : FieldType → Bool} (hT : ∀ w ∈ T1, w ∈ T2) (h : so_ck7 T1 cl own mn j x y len ty = true) : so_ck7 T2 cl own mn j x y len ty = true := by
  unfold so_ck7 at h ⊢
  rw [Bool.and_eq_true] at h ⊢
  exact ⟨sq_ck6 hT h.1, h.2⟩
theorem sq_ck13 (hT : ∀ w ∈ T1, w ∈ T2) (h : so_ck13 T1 cl own j x len n N = true) : so_ck13 T2 cl own j x len n N = true := by
  unfold so_ck13 at h ⊢
  rw [Bool.and_eq_true] at h ⊢
  refine ⟨h.1, ?_⟩
  have h2 := h.2
  cases hq : cl[x]? with
  | none => rw [hq] at h2; cases h2
  | some q =>
    rw [hq] at h2
    dsimp only at h2 ⊢
    rw [Bool.and_eq_true, Bool.and_eq_true, Bool.and_eq_true, Bool.and_eq_true] at h2 ⊢
    obtain ⟨⟨⟨⟨g1, g2⟩, g3⟩, g4⟩, g5⟩ := h2
    exact ⟨⟨⟨⟨g1, sq_dec hT g2⟩, sq_dec hT g3⟩, sq_dec hT g4⟩, g5⟩
theorem sq_ck14 (hT : ∀ w ∈ T1, w ∈ T2) (h : so_ck14 T1 i x len = true) : so_ck14 T2 i x len = true := by
  unfold so_ck14 at h ⊢
  rw [Bool.and_eq_true] at h ⊢
  refine ⟨h.1, ?_⟩
  have h2 := h.2
  split at h2
  · rw [Bool.and_eq_true] at h2 ⊢
    exact ⟨h2.1, sq_dec hT h2.2⟩
  · cases h2
theorem sq_ck57 (hT : ∀ w ∈ T1, w ∈ T2) (h : so_ck57 T1 own i len = true) : so_ck57 T2 own i len = true := by
  unfold so_ck57 at h ⊢
  rw [Bool.and_eq_true] at h ⊢
  refine ⟨h.1, ?_⟩
  have h2 := h.2
  split at h2
  · rw [Bool.and_eq_true, Bool.and_eq_true] at h2 ⊢
    exact ⟨⟨sq_dec hT h2.1.1, sq_dec hT h2.1.2⟩, sq_dec hT h2.2⟩
  · cases h2
theorem sq_ck30 (hT : ∀ w ∈ T1, w ∈ T2) (h : so_ck30 T1 own i len = true) : so_ck30 T2 own i len = true := by
  unfold so_ck30 at h ⊢
  rw [Bool.and_eq_true] at h ⊢
  refine ⟨h.1, ?_⟩
  have h2 := h.2
  split at h2
  · rw [Bool.and_eq_true, Bool.and_eq_true, Bool.and_eq_true] at h2 ⊢
    exact ⟨⟨⟨sq_dec hT h2.1.1.1, sq_dec hT h2.1.1.2⟩, sq_dec hT h2.1.2⟩, sq_dec hT h2.2⟩
  · cases h2
theorem sq_ckmx {y : MethodName} {cc : ByteArray} (hT : ∀ w ∈ T1, w ∈ T2) (h : so_ckmx T1 own i len y cc = true) : so_ckmx T2 own i len y cc = true := by
  unfold so_ckmx at h ⊢
  rw [Bool.and_eq_true] at h ⊢
  refine ⟨h.1, ?_⟩
  have h2 := h.2
  split at h2
  · rw [Bool.and_eq_true, Bool.and_eq_true, Bool.and_eq_true] at h2 ⊢
    exact ⟨⟨⟨sq_dec hT h2.1.1.1, sq_dec hT h2.1.1.2⟩, sq_dec hT h2.1.2⟩, sq_dec hT h2.2⟩
  · cases h2
theorem sq_ckg (hT : ∀ w ∈ T1, w ∈ T2) (h : so_ckg T1 cl own i x y len = true) : so_ckg T2 cl own i x y len = true := by
  unfold so_ckg at h ⊢
  split at h
  · exact sq_ck6 hT h
  · cases h
theorem sq_ckp {ty : FieldType → Bool} (hT : ∀ w ∈ T1, w ∈ T2) (h : so_ckp T1 cl own mn i x y len ty = true) : so_ckp T2 cl own mn i x y len ty = true := by
  unfold so_ckp at h ⊢
  split at h
  · exact sq_ck7 hT h
  · cases h
theorem sq_ckn (hT : ∀ w ∈ T1, w ∈ T2) (h : so_ckn T1 cl own i x len = true) : so_ckn T2 cl own i x len = true := by
  unfold so_ckn at h ⊢
  split at h
  · exact sq_ck13 hT h
  · cases h
theorem sq_ite {c : Prop} [Decidable c] {a b a' b' : Bool} (ha : a = true → a' = true) (hb : b = true → b' = true) (h : (if c then a else b) = true) : (if c then a' else b') = true := by
  by_cases hc : c
  · rw [if_pos hc] at h ⊢; exact ha h
  · rw [if_neg hc] at h ⊢; exact hb h
theorem sq_chkA (hT : ∀ w ∈ T1, w ∈ T2) (h : so_chkA T1 cl own mn nL pc i o x y len = true) : so_chkA T2 cl own mn nL pc i o x y len = true := by
  unfold so_chkA at h ⊢
  refine sq_ite id (sq_ite id (sq_ite id (sq_ite id (sq_ite (sq_ck2 hT) (sq_ite id (sq_ite id (sq_ite id (sq_ite (sq_ckg hT) (sq_ite (sq_ckp hT) (sq_ite (sq_ckp hT) (sq_ite (sq_ckp hT) (sq_ite id (sq_ite (sq_ckn hT) (sq_ite (sq_ck14 hT) (sq_ite (sq_ck57 hT) (sq_ite id (sq_ite id (sq_ite (sq_ck30 hT) (sq_ite (sq_ckmx hT) (sq_ite (sq_ckmx hT) (sq_ite id id))))))))))))))))))))) h
theorem sq_cky {y : MethodName} {w0 : Cond} (hT : ∀ w ∈ T1, w ∈ T2) (h : so_cky T1 own j y w0 maxL n = true) : so_cky T2 own j y w0 maxL n = true := by
  unfold so_cky at h ⊢
  simp only [Bool.and_eq_true] at h ⊢
  obtain ⟨⟨⟨⟨⟨⟨k1, k2⟩, k3⟩, k4⟩, k5⟩, k6⟩, k7⟩ := h
  exact ⟨⟨⟨⟨⟨⟨sq_dec hT k1, sq_dec hT k2⟩, sq_dec hT k3⟩, k4⟩, k5⟩, k6⟩, k7⟩
theorem sq_ck15 {B1 B2 : List Cond} {ik ic : Nat} {cls : String} (hT : ∀ w ∈ T1, w ∈ T2) (hB : ∀ w ∈ B1, w ∈ B2) (h : so_ck15 T1 B1 own ik ic cls = true) : so_ck15 T2 B2 own ik ic cls = true := by
  unfold so_ck15 at h ⊢
  simp only [Bool.and_eq_true, List.all_eq_true, Bool.or_eq_true] at h ⊢
  obtain ⟨⟨⟨⟨⟨k1, k2⟩, k3⟩, k4⟩, k5⟩, k6⟩ := h
  exact ⟨⟨⟨⟨⟨k1, k2⟩, sq_dec hT k3⟩, sq_dec hT k4⟩, fun w hw => (k5 w hw).elim (fun z => Or.inl (sq_dec hT z)) (fun z => Or.inr (sq_dec hB z))⟩, k6⟩
/-- words by their places in a list -/
def so_pick (l : List Cond) (ks : List Nat) : List Cond := ks.filterMap (fun k => l[k]?)
theorem so_pick_mem {l : List Cond} {ks : List Nat} {w : Cond} (h : w ∈ so_pick l ks) : w ∈ l := by
  obtain ⟨k, -, hk⟩ := List.mem_filterMap.mp h
  exact List.mem_of_getElem? hk
/-- a good word -/
def so_gw (w : Cond) : Bool := (w.onTables && w.keeps) || match w with | .arrayClass _ => true | _ => false
theorem so_gw_good {l : List Cond} : GoodIn (l.filter so_gw) (l.filter so_gw) := by
  intro w hw
  refine ⟨hw, ?_⟩
  have h := (List.mem_filter.mp hw).2
  unfold so_gw at h
  rw [Bool.or_eq_true] at h
  rcases h with h | h
  · exact Or.inl h
  · split at h
    · exact Or.inr ⟨_, rfl⟩
    · cases h
end SMO
