/-! ===== packed rows; the heap as a plain list ===== -/
section SMH
theorem so_cnt_hi (N M : Nat) : so_cnt N M >>> 64 = M := by
  show (M <<< 64 + (N + 1) % 18446744073709551616) >>> 64 = M
  rw [Nat.shiftLeft_eq, Nat.shiftRight_eq_div_pow]
  omega
theorem so_ln_hi (w N i : Nat) : so_ln w N i = (N >>> 64) >>> (w * i) % 2 ^ w := by
  show (N >>> (64 + w * i)) % 2 ^ w = _
  rw [Nat.shiftRight_add]
theorem so_ln_bit (w N i t : Nat) : (so_ln w N i).testBit t = (decide (t < w) && (N >>> 64).testBit (w * i + t)) := by
  rw [so_ln_hi, Nat.testBit_mod_two_pow, Nat.testBit_shiftRight]
theorem so_ln_lt (w N i : Nat) : so_ln w N i < 2 ^ w := by
  rw [so_ln_hi]
  exact Nat.mod_lt _ (Nat.two_pow_pos w)
/-- a lane that is written, and the others -/
theorem so_ln_up {w N i v : Nat} (hw : 0 < w) (hv : v < 2 ^ w) (j : Nat) : so_ln w (so_up w N i v) j = if j = i then v else so_ln w N j := by
  apply Nat.eq_of_testBit_eq
  intro t
  rw [so_ln_bit]
  show (decide (t < w) && ((so_cnt N ((N >>> 64) ^^^ ((so_ln w N i ^^^ v) <<< (w * i)))) >>> 64).testBit (w * j + t)) = _
  rw [so_cnt_hi, Nat.testBit_xor, Nat.testBit_shiftLeft]
  have hx : so_ln w N i ^^^ v < 2 ^ w := Nat.xor_lt_two_pow (so_ln_lt w N i) hv
  by_cases ht : t < w
  · by_cases hji : j = i
    · subst hji
      have e1 : w * j + t - w * j = t := by omega
      have e2 : w * j + t ≥ w * j := by omega
      rw [e1, if_pos rfl, Nat.testBit_xor, so_ln_bit]
      simp [ht]
    · rw [if_neg hji, so_ln_bit]
      have e3 : (decide (w * j + t ≥ w * i) && (so_ln w N i ^^^ v).testBit (w * j + t - w * i)) = false := by
        by_cases hle : w * j + t ≥ w * i
        · have hjgt : i < j := by
            rcases Nat.lt_trichotomy i j with z | z | z
            · exact z
            · exact absurd z.symm hji
            · exfalso
              have : w * (j + 1) ≤ w * i := Nat.mul_le_mul_left w z
              rw [Nat.mul_add, Nat.mul_one] at this
              omega
          have hge : w ≤ w * j + t - w * i := by
            have : w * (i + 1) ≤ w * j := Nat.mul_le_mul_left w hjgt
            rw [Nat.mul_add, Nat.mul_one] at this
            omega
          have : (so_ln w N i ^^^ v).testBit (w * j + t - w * i) = false := Nat.testBit_lt_two_pow (Nat.lt_of_lt_of_le hx (Nat.pow_le_pow_right (by decide) hge))
          rw [this]; simp
        · simp [hle]
      rw [e3]
      simp
  · have e0 : (if j = i then v else so_ln w N j).testBit t = false := by
      have hlt : (if j = i then v else so_ln w N j) < 2 ^ w := by
        split
        · exact hv
        · exact so_ln_lt w N j
      exact Nat.testBit_lt_two_pow (Nat.lt_of_lt_of_le hlt (Nat.pow_le_pow_right (by decide) (by omega)))
    rw [e0]
    simp [ht]
/-- a row's first n ints out of another -/
theorem so_ln_cp (A B n j : Nat) : so_ln 32 (so_cp A B (32 * n)) j = if j < n then so_ln 32 A j else so_ln 32 B j := by
  apply Nat.eq_of_testBit_eq
  intro t
  rw [so_ln_bit]
  show (decide (t < 32) && ((so_cnt B (((B >>> 64) >>> (32 * n)) <<< (32 * n) + (A >>> 64) % 2 ^ (32 * n))) >>> 64).testBit (32 * j + t)) = _
  rw [so_cnt_hi, Nat.shiftLeft_eq, Nat.mul_comm, Nat.testBit_two_pow_mul_add _ (Nat.mod_lt _ (Nat.two_pow_pos _))]
  by_cases ht : t < 32
  · by_cases hj : j < n
    · rw [if_pos hj, if_pos (by omega), Nat.testBit_mod_two_pow, so_ln_bit]
      have : 32 * j + t < 32 * n := by omega
      simp [ht, this]
    · rw [if_neg hj, if_neg (by omega), Nat.testBit_shiftRight, so_ln_bit]
      have : 32 * n + (32 * j + t - 32 * n) = 32 * j + t := by omega
      rw [this]
  · have e0 : (if j < n then so_ln 32 A j else so_ln 32 B j).testBit t = false := by
      split <;> rw [so_ln_bit] <;> simp [ht]
    rw [e0]
    simp [ht]
theorem so_nth_eq {α : Type} (l : List α) : ∀ n, so_nth l n = l[n]? := by
  induction l with
  | nil => intro n; rfl
  | cons a t ih => intro n; cases n with
    | zero => rfl
    | succ m => exact ih m
theorem so_set_eq {α : Type} (l : List α) : ∀ n (v : α), so_set l n v = l.set n v := by
  induction l with
  | nil => intro n v; rfl
  | cons a t ih => intro n v; cases n with
    | zero => rfl
    | succ m => exact congrArg (a :: ·) (ih m v)
theorem so_app_eq {α : Type} (l : List α) (a : α) : so_app l a = l ++ [a] := by
  induction l with
  | nil => rfl
  | cons b t ih => exact congrArg (b :: ·) ih
/-- all rows of the heap but the last are full -/
def so_sh : so_H → Prop
  | [] => True
  | l :: t => (l.length = 12 ∧ so_sh t) ∨ (l.length ≤ 12 ∧ t = [])
theorem so_get_eq : ∀ (h : so_H), so_sh h → ∀ a, so_get h a = h.flatten[a]? := by
  intro h
  induction h with
  | nil => intro _ a; show (match so_nth ([] : so_H) (a / 12) with | some l => so_nth l (a % 12) | none => none) = _; rw [so_nth_eq]; simp
  | cons l t ih =>
    intro hs a
    show (match so_nth (l :: t) (a / 12) with | some l => so_nth l (a % 12) | none => none) = _
    rw [so_nth_eq, List.flatten_cons]
    by_cases ha : a < 12
    · have e1 : a / 12 = 0 := by omega
      have e2 : a % 12 = a := by omega
      rw [e1, e2, List.getElem?_cons_zero]
      dsimp only
      rw [so_nth_eq]
      rcases hs with ⟨h1, h2⟩ | ⟨h1, h2⟩
      · rw [List.getElem?_append_left (by omega)]
      · subst h2; simp
    · have e1 : a / 12 = (a - 12) / 12 + 1 := by omega
      have e2 : a % 12 = (a - 12) % 12 := by omega
      rw [e1, e2, List.getElem?_cons_succ]
      rcases hs with ⟨h1, h2⟩ | ⟨h1, h2⟩
      · have := ih h2 (a - 12)
        rw [show so_get t (a - 12) = (match so_nth t ((a - 12) / 12) with | some l => so_nth l ((a - 12) % 12) | none => none) from rfl, so_nth_eq] at this
        rw [this, List.getElem?_append_right (by omega), h1]
      · subst h2
        have : (l ++ ([] : so_H).flatten)[a]? = none := by simp; omega
        rw [this]
        rfl
theorem so_hlen_eq (h : so_H) : so_hlen h = h.flatten.length := by
  induction h with
  | nil => rfl
  | cons l t ih => show so_len l + so_hlen t = _; rw [ih, so_len_eq]; simp
theorem so_push_eq (o : so_O) : ∀ (h : so_H), so_sh h → so_sh (so_push h o) ∧ (so_push h o).flatten = h.flatten ++ [o] := by
  intro h
  induction h with
  | nil => intro _; exact ⟨Or.inr ⟨by simp, rfl⟩, by show ([[o]] : so_H).flatten = _; simp⟩
  | cons l t ih =>
    intro hs
    show so_sh (so_if (Nat.beq (so_len l) 12) (l :: so_push t o) (so_app l o :: t)) ∧ (so_if (Nat.beq (so_len l) 12) (l :: so_push t o) (so_app l o :: t)).flatten = _
    cases hb : Nat.beq (so_len l) 12 with
    | true =>
      have hl : l.length = 12 := by rw [← so_len_eq]; exact so_beq_eq _ _ hb
      have ht : so_sh t := by
        rcases hs with ⟨_, h2⟩ | ⟨_, h2⟩
        · exact h2
        · subst h2; trivial
      obtain ⟨a1, a2⟩ := ih ht
      refine ⟨Or.inl ⟨hl, a1⟩, ?_⟩
      show (l :: so_push t o).flatten = _
      rw [List.flatten_cons, a2, List.flatten_cons, List.append_assoc]
    | false =>
      have hl : l.length ≠ 12 := by
        intro z
        rw [so_len_eq, z] at hb
        cases hb
      rcases hs with ⟨h1, _⟩ | ⟨h1, h2⟩
      · exact absurd h1 hl
      · subst h2
        refine ⟨Or.inr ⟨?_, rfl⟩, ?_⟩
        · rw [so_app_eq]; simp; omega
        · show (so_app l o :: []).flatten = _
          rw [so_app_eq]; simp
theorem so_upd_eq : ∀ (h : so_H), so_sh h → ∀ (a : Nat) (o : so_O), so_sh (so_upd h a o) ∧ (so_upd h a o).flatten = h.flatten.set a o := by
  intro h
  induction h with
  | nil => intro _ a o; exact ⟨trivial, by show ([] : so_H).flatten = _; simp⟩
  | cons l t ih =>
    intro hs a o
    by_cases ha : a < 12
    · have e1 : Nat.div a 12 = 0 := by show a / 12 = 0; omega
      have e2 : Nat.mod a 12 = a := by show a % 12 = a; omega
      have e3 : so_upd (l :: t) a o = l.set a o :: t := by
        unfold so_upd
        rw [e1, e2]
        show so_set (l :: t) 0 (so_set l a o) = _
        rw [so_set_eq, so_set_eq]
        rfl
      rw [e3]
      refine ⟨?_, ?_⟩
      · rcases hs with ⟨h1, h2⟩ | ⟨h1, h2⟩
        · exact Or.inl ⟨by rw [List.length_set]; exact h1, h2⟩
        · exact Or.inr ⟨by rw [List.length_set]; exact h1, h2⟩
      · rw [List.flatten_cons, List.flatten_cons]
        rcases hs with ⟨h1, h2⟩ | ⟨h1, h2⟩
        · rw [List.set_append_left _ _ (by omega)]
        · subst h2; simp
    · have e1 : Nat.div a 12 = Nat.div (a - 12) 12 + 1 := by show a / 12 = (a - 12) / 12 + 1; omega
      have e2 : Nat.mod a 12 = Nat.mod (a - 12) 12 := by show a % 12 = (a - 12) % 12; omega
      have e3 : so_upd (l :: t) a o = l :: so_upd t (a - 12) o := by
        unfold so_upd
        rw [e1, e2]
        show (match so_nth t (Nat.div (a - 12) 12) with | some l' => so_set (l :: t) (Nat.div (a - 12) 12 + 1) (so_set l' (Nat.mod (a - 12) 12) o) | none => l :: t) = _
        cases so_nth t (Nat.div (a - 12) 12) with
        | none => rfl
        | some l' => rfl
      rw [e3]
      rcases hs with ⟨h1, h2⟩ | ⟨h1, h2⟩
      · obtain ⟨a1, a2⟩ := ih h2 (a - 12) o
        refine ⟨Or.inl ⟨h1, a1⟩, ?_⟩
        rw [List.flatten_cons, a2, List.flatten_cons, List.set_append_right _ _ (by omega), h1]
      · subst h2
        refine ⟨Or.inr ⟨h1, rfl⟩, ?_⟩
        show (l :: []).flatten = _
        have : ((l :: ([] : so_H)).flatten).set a o = (l :: ([] : so_H)).flatten := by
          apply List.set_eq_of_length_le
          simp
          omega
        rw [this]
end SMH
