/-! ===== the small machine's heap and the machine's ===== -/
section SMT
/-- a thing o lies at a -/
def so_ob (D : va_G) (cl : List vw_C) (U : State) (f : Nat → Nat) (o : so_O) (a : Nat) (H : Heap) : Prop :=
  (o.1 < 999 → ∃ r : vw_C, cl[o.1]? = some r ∧ r.2.2 = o.2.1 ∧ t_OB a (D.1 o.1) r.2.2 (D.2 o.1) H (fun k => so_vl f (so_ln 72 o.2.2 k))) ∧
  (o.1 = 1003 → ∃ cell : Cell, H[a]? = some cell ∧ U.isArrayOf cell .int ∧ cell.vm = .none ∧ cell.slots.size = o.2.1 ∧ o.2.1 < 2 ^ 31 ∧ ∀ j, j < o.2.1 → cell.slots[j]? = some (.int (Int32.ofNat (so_ln 32 o.2.2 j)))) ∧
  (o.1 = 1000 → ∃ cell : Cell, H[a]? = some cell ∧ U.isArrayOf cell .long ∧ cell.vm = .none ∧ cell.slots.size = o.2.1 ∧ o.2.1 < 2 ^ 31 ∧ ∀ j, j < o.2.1 → so_ln 72 o.2.2 j % 4 = 3 ∧ cell.slots[j]? = some (so_vl f (so_ln 72 o.2.2 j)))
/-- the heap h of the small machine, thing i at f i; the script is thing 0, below base -/
def so_rel (D : va_G) (cl : List vw_C) (base : Nat) (scr : List Nat) (f : Nat → Nat) (h : so_H) (U : State) (H : Heap) : Prop :=
  so_sh h ∧ (∀ (i : Nat) (o : so_O), h.flatten[i]? = some o → so_ob D cl U f o (f i) H ∧ f i < H.size ∧ (0 < i → o.1 ≠ 999 → base ≤ f i)) ∧ (∀ (i j : Nat) (oi oj : so_O), h.flatten[i]? = some oi → h.flatten[j]? = some oj → oi.1 ≠ 999 → oj.1 ≠ 999 → f i = f j → i = j) ∧
  (∃ n N, h.flatten[0]? = some (1002, n, N)) ∧ va_X (f 0) scr.length (fun j => Int32.ofNat (scr.getD j 0)) U H ∧ f 0 < base ∧ base ≤ H.size
theorem so_ob.kept {D : va_G} {cl : List vw_C} {U : State} {f : Nat → Nat} {o : so_O} {a : Nat} {H H1 : Heap} (h : so_ob D cl U f o a H) (hq : H1[a]? = H[a]?) : so_ob D cl U f o a H1 := by
  refine ⟨fun z => ?_, fun z => ?_, fun z => ?_⟩
  · obtain ⟨r, h1, h2, h3⟩ := h.1 z
    exact ⟨r, h1, h2, h3.kept hq⟩
  · obtain ⟨cell, h1, h2⟩ := h.2.1 z
    exact ⟨cell, by rw [hq]; exact h1, h2⟩
  · obtain ⟨cell, h1, h2⟩ := h.2.2 z
    exact ⟨cell, by rw [hq]; exact h1, h2⟩
theorem so_ob.moved {D : va_G} {cl : List vw_C} {u U : State} {f : Nat → Nat} {o : so_O} {a : Nat} {H : Heap} (hvm : u.vm.Alike U.vm) (h : so_ob D cl u f o a H) : so_ob D cl U f o a H := by
  refine ⟨h.1, fun z => ?_, fun z => ?_⟩
  · obtain ⟨cell, h1, h2, h3⟩ := h.2.1 z
    exact ⟨cell, h1, State.isArrayOf_alike hvm h2, h3⟩
  · obtain ⟨cell, h1, h2, h3⟩ := h.2.2 z
    exact ⟨cell, h1, State.isArrayOf_alike hvm h2, h3⟩
theorem so_rel.moved {D : va_G} {cl : List vw_C} {base : Nat} {scr : List Nat} {f : Nat → Nat} {h : so_H} {u U : State} {H : Heap} (hvm : u.vm.Alike U.vm) (hr : so_rel D cl base scr f h u H) : so_rel D cl base scr f h U H := by
  obtain ⟨h1, h2, h3, h4, h5, h6⟩ := hr
  exact ⟨h1, fun i o ho => ⟨so_ob.moved hvm (h2 i o ho).1, (h2 i o ho).2⟩, h3, h4, va_X.moved hvm h5, h6⟩
theorem so_oks_at {n N m : Nat} (h : so_oks n N m = true) : ∀ k, k < m → so_okv n (so_ln 72 N k) = true := by
  induction m with
  | zero => intro k hk; omega
  | succ m ih =>
    have h0 : so_if (so_okv n (so_ln 72 N m)) (so_oks n N m) false = true := h
    obtain ⟨h1, h2⟩ := so_if_t h0
    intro k hk
    by_cases hkm : k = m
    · rw [hkm]; exact h1
    · exact ih h2 k (by omega)
theorem so_all_mem {α : Type} {q : α → Bool} {l : List α} (h : so_all q l = true) : ∀ a ∈ l, q a = true := by
  induction l with
  | nil => intro a ha; cases ha
  | cons b t ih =>
    have h0 : so_if (q b) (so_all q t) false = true := h
    obtain ⟨h1, h2⟩ := so_if_t h0
    intro a ha
    rcases List.mem_cons.mp ha with rfl | ha
    · exact h1
    · exact ih h2 a ha
theorem so_okh_at {n : Nat} {h : so_H} (hh : so_okh n h = true) {o : so_O} (ho : o ∈ h.flatten) : so_oko n o = true := by
  obtain ⟨l, hl, hol⟩ := List.mem_flatten.mp ho
  exact so_all_mem (so_all_mem hh l hl) o hol
/-- things keep their places: what is said of one stays -/
theorem so_ob.ext {D : va_G} {cl : List vw_C} {U : State} {f g : Nat → Nat} {n : Nat} {o : so_O} {a : Nat} {H : Heap} (hfg : ∀ i, i < n → g i = f i) (hok : so_oko n o = true) (h : so_ob D cl U f o a H) : so_ob D cl U g o a H := by
  refine ⟨fun z => ?_, h.2.1, fun z => ?_⟩
  · obtain ⟨r, h1, h2, h3⟩ := h.1 z
    refine ⟨r, h1, h2, h3.to (fun k hk => ?_)⟩
    have hb : Nat.blt o.1 1000 = true := so_blt.mpr (by omega)
    unfold so_oko at hok
    rw [hb] at hok
    exact (so_vl_ext hfg (so_oks_at (m := o.2.1) hok k (by omega))).symm
  · obtain ⟨cell, h1, h2, h3, h4, h5, h6⟩ := h.2.2 z
    refine ⟨cell, h1, h2, h3, h4, h5, fun j hj => ⟨(h6 j hj).1, ?_⟩⟩
    rw [so_vl_long (h6 j hj).1, ← so_vl_long (f := f) (h6 j hj).1]
    exact (h6 j hj).2
/-- a new thing at the heap's end; or one that stands for an exception, anywhere -/
theorem so_rel.push {D : va_G} {cl : List vw_C} {base : Nat} {scr : List Nat} {f : Nat → Nat} {h : so_H} {U : State} {H H1 : Heap} (hr : so_rel D cl base scr f h U H) (hok : so_okh (so_hlen h) h = true) {o : so_O} {q : Nat} (hq : o.1 ≠ 999 → H.size ≤ q) (hq1 : q < H1.size) (hsz : H.size ≤ H1.size) (hk : ∀ z, z < H.size → H1[z]? = H[z]?)
    (ho : so_ob D cl U (va_up f (so_hlen h) q) o q H1) (hn : o.1 ≠ 1002) : so_rel D cl base scr (va_up f (so_hlen h) q) (so_push h o) U H1 := by
  obtain ⟨h1, h2, h3, ⟨n0, N0, h4⟩, h5, h6, h7⟩ := hr
  obtain ⟨s1, s2⟩ := so_push_eq o h h1
  have hlen := so_hlen_eq h
  have hfg : ∀ i, i < so_hlen h → va_up f (so_hlen h) q i = f i := fun i hi => va_up_ne f q (by omega)
  have h0 : 0 < so_hlen h := by rw [hlen]; exact (List.getElem?_eq_some_iff.mp h4).1
  have hget : ∀ (i : Nat) (o' : so_O), (so_push h o).flatten[i]? = some o' → (i < h.flatten.length ∧ h.flatten[i]? = some o') ∨ (i = so_hlen h ∧ o' = o) := by
    intro i o' ho'
    rw [s2] at ho'
    by_cases hi : i < h.flatten.length
    · rw [List.getElem?_append_left hi] at ho'
      exact Or.inl ⟨hi, ho'⟩
    · rw [List.getElem?_append_right (by omega)] at ho'
      have hi0 : i - h.flatten.length = 0 := by
        have := (List.getElem?_eq_some_iff.mp ho').1
        rw [List.length_singleton] at this
        omega
      rw [hi0] at ho'
      cases ho'
      exact Or.inr ⟨by omega, rfl⟩
  refine ⟨s1, fun i o' ho' => ?_, fun i j oi oj hi hj ni nj hij => ?_, ⟨n0, N0, ?_⟩, ?_, ?_, Nat.le_trans h7 hsz⟩
  · rcases hget i o' ho' with ⟨hi, ho'⟩ | ⟨rfl, rfl⟩
    · obtain ⟨a1, a2, a3⟩ := h2 i o' ho'
      rw [hfg i (by omega)]
      refine ⟨?_, by omega, a3⟩
      exact (so_ob.ext hfg (so_okh_at hok (List.mem_of_getElem? ho')) a1).kept (hk _ a2)
    · rw [va_up_self]
      exact ⟨ho, hq1, fun _ n9 => Nat.le_trans h7 (hq n9)⟩
  · have key : ∀ z, z < h.flatten.length → f z < H.size := fun z hz => (h2 z _ (List.getElem?_eq_getElem hz)).2.1
    rcases hget i oi hi with ⟨hi2, hi'⟩ | ⟨rfl, rfl⟩ <;> rcases hget j oj hj with ⟨hj2, hj'⟩ | ⟨rfl, rfl⟩
    · rw [hfg i (by omega), hfg j (by omega)] at hij
      exact h3 i j oi oj hi' hj' ni nj hij
    · rw [va_up_self, hfg i (by omega)] at hij
      have := key i hi2
      have := hq nj
      omega
    · rw [va_up_self, hfg j (by omega)] at hij
      have := key j hj2
      have := hq ni
      omega
    · rfl
  · rw [s2, List.getElem?_append_left (by omega)]; exact h4
  · rw [hfg 0 h0]; exact h5.kept (hk _ (by omega))
  · rw [hfg 0 h0]; exact h6
/-- thing i is changed -/
theorem so_rel.set {D : va_G} {cl : List vw_C} {base : Nat} {scr : List Nat} {f : Nat → Nat} {h : so_H} {U : State} {H H1 : Heap} (hr : so_rel D cl base scr f h U H) {i : Nat} {o0 o : so_O} (hi : h.flatten[i]? = some o0) (hn : o0.1 ≠ 1002) (hn9 : o0.1 ≠ 999) (hsz : H1.size = H.size) (hk : ∀ z, z ≠ f i → H1[z]? = H[z]?)
    (ho : so_ob D cl U f o (f i) H1) : so_rel D cl base scr f (so_upd h i o) U H1 ∧ base ≤ f i := by
  obtain ⟨h1, h2, h3, ⟨n0, N0, h4⟩, h5, h6, h7⟩ := hr
  obtain ⟨s1, s2⟩ := so_upd_eq h h1 i o
  have hlt : i < h.flatten.length := (List.getElem?_eq_some_iff.mp hi).1
  have hne : i ≠ 0 := by
    intro z
    subst z
    rw [h4] at hi
    cases hi
    exact hn rfl
  have hb : base ≤ f i := (h2 i o0 hi).2.2 (by omega) hn9
  have hold : ∀ (j : Nat) (o' : so_O), (so_upd h i o).flatten[j]? = some o' → o'.1 ≠ 999 → ∃ oj, h.flatten[j]? = some oj ∧ oj.1 ≠ 999 := by
    intro j o' ho' n9
    rw [s2] at ho'
    by_cases hji : j = i
    · subst hji
      exact ⟨o0, hi, hn9⟩
    · rw [List.getElem?_set_ne (Ne.symm hji)] at ho'
      exact ⟨o', ho', n9⟩
  refine ⟨⟨s1, fun j o' ho' => ?_, fun j k oj ok hj hk' nj nk hjk => ?_, ⟨n0, N0, ?_⟩, h5.kept (hk _ (by omega)), h6, by omega⟩, hb⟩
  · rw [s2] at ho'
    by_cases hji : j = i
    · subst hji
      rw [List.getElem?_set_self hlt] at ho'
      cases ho'
      obtain ⟨_, a2, a3⟩ := h2 j o0 hi
      exact ⟨ho, by omega, fun z _ => a3 z hn9⟩
    · rw [List.getElem?_set_ne (Ne.symm hji)] at ho'
      obtain ⟨a1, a2, a3⟩ := h2 j o' ho'
      by_cases n9 : o'.1 = 999
      · exact ⟨⟨fun z => by omega, fun z => by omega, fun z => by omega⟩, by omega, a3⟩
      · exact ⟨a1.kept (hk _ (fun z => hji (h3 j i o' o0 ho' hi n9 hn9 z))), by omega, a3⟩
  · obtain ⟨oj1, g1, g2⟩ := hold j oj hj nj
    obtain ⟨ok1, g3, g4⟩ := hold k ok hk' nk
    exact h3 j k oj1 ok1 g1 g3 g2 g4 hjk
  · rw [s2, List.getElem?_set_ne hne]; exact h4
end SMT
