/-! ===== a method's entries checked by a program ===== -/
section SMCK
theorem so_bd_at {n : Nat} {t : so_C} {p : Nat} {E : so_E} (h : so_bd n t p = some E) : p < n ∧ t p = some E := by
  unfold so_bd so_br at h
  cases hb : Nat.blt p n with
  | false => rw [hb] at h; cases h
  | true => rw [hb] at h; exact ⟨so_blt.mp hb, h⟩
def so_bR (i : Instr) (n o : Nat) (ret : Option FieldType) : Bool := n == 1 && match i with
  | .ireturn => (o == 11 && decide (ret = some .int)) || (o == 56 && decide (ret = some .boolean))
  | .areturn => o == 53 && match ret with | some (.object _) => true | some (.array _) => true | _ => false
  | .return_ => o == 12 && decide (ret = none)
  | _ => false
theorem so_bR_at {I : so_I} {i : Instr} {n pc o : Nat} (hd : decode I.2.1 pc = .ok (i, n)) (h : so_bR i n o I.2.2.2.1 = true) : so_eR I pc o := by
  unfold so_bR at h
  rw [Bool.and_eq_true, beq_iff_eq] at h
  obtain ⟨rfl, h⟩ := h
  split at h
  · simp only [Bool.or_eq_true, Bool.and_eq_true, beq_iff_eq, decide_eq_true_eq] at h
    rcases h with h | h
    · exact Or.inl ⟨h.1, hd, h.2⟩
    · exact Or.inr (Or.inl ⟨h.1, hd, h.2⟩)
  · rw [Bool.and_eq_true, beq_iff_eq] at h
    refine Or.inr (Or.inr (Or.inl ⟨h.1, hd, ?_⟩))
    have h2 := h.2
    split at h2
    · next n9 he => exact ⟨_, he, Or.inl ⟨n9, rfl⟩⟩
    · next t9 he => exact ⟨_, he, Or.inr ⟨t9, rfl⟩⟩
    · cases h2
  · rw [Bool.and_eq_true, beq_iff_eq, decide_eq_true_eq] at h
    exact Or.inr (Or.inr (Or.inr ⟨h.1, hd, h.2⟩))
  · cases h
/-- a throw's text: its place, narrow or wide -/
def so_bl (cc : ByteArray) (pc : Nat) : Option (Nat × Bool) := match decode cc (pc + 4) with
  | .ok (.ldc is, 2) => some (is, false)
  | .ok (.ldc_w is, 3) => some (is, true)
  | _ => none
def so_bi (cc : ByteArray) (pc : Nat) : Option Nat := match decode cc pc with
  | .ok (.invokespecial ic, 3) => some ic
  | _ => none
def so_b1 (cc : ByteArray) (pc : Nat) (t : Instr → Bool) : Bool := match decode cc pc with
  | .ok (i, 1) => t i
  | _ => false
def so_dupq (i : Instr) : Bool := match i with | .dup => true | _ => false
def so_thrq (i : Instr) : Bool := match i with | .athrow => true | _ => false
def so_bT2 (Ts Bs : List Cond) (strs : List (String × Nat × String)) (I : so_I) (pc x ik is : Nat) (wide : Bool) : Bool := match so_bi I.2.1 (pc + (if wide then 7 else 6)) with
  | some ic => so_ck15 Ts Bs I.1.cls ik ic (so_ex x) && so_b1 I.2.1 (pc + (if wide then 10 else 9)) so_thrq && strs.any (fun q => q.1 == I.1.cls && q.2.1 == is)
  | none => false
def so_bT (Ts Bs : List Cond) (strs : List (String × Nat × String)) (I : so_I) (pc o x n : Nat) (i : Instr) : Bool := match i with
  | .new ik => n == 3 && o == 15 && Nat.blt x 3 && I.2.2.2.2.isEmpty && so_b1 I.2.1 (pc + 3) so_dupq && match so_bl I.2.1 pc with
    | some (is, wide) => so_bT2 Ts Bs strs I pc x ik is wide
    | none => false
  | _ => false
theorem so_bi_at {cc : ByteArray} {pc ic : Nat} (h : so_bi cc pc = some ic) : decode cc pc = .ok (.invokespecial ic, 3) := by
  unfold so_bi at h
  split at h
  · next ic9 he => cases h; exact he
  · cases h
theorem so_bl_at {cc : ByteArray} {pc is : Nat} {wide : Bool} (h : so_bl cc pc = some (is, wide)) : decode cc (pc + 4) = .ok (if wide then (.ldc_w is, 3) else (.ldc is, 2)) := by
  unfold so_bl at h
  split at h
  · next is9 he => cases h; exact he
  · next is9 he => cases h; exact he
  · cases h
theorem so_b1_dup {cc : ByteArray} {pc : Nat} (h : so_b1 cc pc so_dupq = true) : decode cc pc = .ok (.dup, 1) := by
  unfold so_b1 at h
  split at h
  · next i9 he =>
    unfold so_dupq at h
    split at h
    · exact he
    · cases h
  · cases h
theorem so_b1_thr {cc : ByteArray} {pc : Nat} (h : so_b1 cc pc so_thrq = true) : decode cc pc = .ok (.athrow, 1) := by
  unfold so_b1 at h
  split at h
  · next i9 he =>
    unfold so_thrq at h
    split at h
    · exact he
    · cases h
  · cases h
theorem so_bT_at {T1 B1 Ts Bs : List Cond} {strs : List (String × Nat × String)} {I : so_I} {pc o x n : Nat} {i : Instr} (hT : ∀ w ∈ T1, w ∈ Ts) (hB : ∀ w ∈ B1, w ∈ Bs) (hd : decode I.2.1 pc = .ok (i, n)) (h : so_bT T1 B1 strs I pc o x n i = true) : so_eT Ts Bs strs I pc o x := by
  unfold so_bT at h
  split at h
  · next ik =>
    simp only [Bool.and_eq_true, beq_iff_eq, List.isEmpty_iff] at h
    obtain ⟨⟨⟨⟨⟨rfl, ho⟩, hx⟩, hh⟩, h3⟩, h4⟩ := h
    split at h4
    · next is wide hl =>
      unfold so_bT2 at h4
      split at h4
      · next ic hi =>
        simp only [Bool.and_eq_true, List.any_eq_true, beq_iff_eq] at h4
        obtain ⟨⟨k1, k2⟩, ⟨q1, q2, q3⟩, k3, k4, k5⟩ := h4
        dsimp only at k4 k5
        subst k4
        subst k5
        exact ⟨ho, so_blt.mp hx, hh, ik, _, ic, q3, wide, sq_ck15 hT hB k1, k3, hd, so_b1_dup h3, so_bl_at hl, so_bi_at hi, so_b1_thr k2⟩
      · cases h4
    · cases h4
  · cases h
/-- a nest mate's link -/
def so_bn (own : String) (j : Nat) (y : MethodName) (w : Cond) : Bool := match w with
  | .methodLinkNest a k x _ => a == own && k == j && decide (x = y)
  | _ => false
theorem so_bn_at {own : String} {j : Nat} {y : MethodName} {w : Cond} (h : so_bn own j y w = true) : ∃ host, w = Cond.methodLinkNest own j y host := by
  unfold so_bn at h
  split at h
  · simp only [Bool.and_eq_true, beq_iff_eq, decide_eq_true_eq] at h
    obtain ⟨⟨rfl, rfl⟩, rfl⟩ := h
    exact ⟨_, rfl⟩
  · cases h
theorem sq_ckz {T1 T2 : List Cond} {y : MethodName} {w0 : Cond} {maxL n : Nat} (hT : ∀ w ∈ T1, w ∈ T2) (h : so_ckz T1 y w0 maxL n = true) : so_ckz T2 y w0 maxL n = true := by
  unfold so_ckz at h ⊢
  simp only [Bool.and_eq_true] at h ⊢
  obtain ⟨⟨⟨⟨⟨k2, k3⟩, k4⟩, k5⟩, k6⟩, k7⟩ := h
  exact ⟨⟨⟨⟨⟨sq_dec hT k2, sq_dec hT k3⟩, k4⟩, k5⟩, k6⟩, k7⟩
/-- a call's words but the method's own -/
def so_ckyb (Ts : List Cond) (own : String) (j : Nat) (y : MethodName) (maxL n : Nat) : Bool := decide (Cond.methodLink own j y ∈ Ts) && decide (Cond.initialized y.cls ∈ Ts) && decide (y.cls ≠ "java/lang/invoke/MethodHandle") && decide (y.cls ≠ "java/lang/invoke/VarHandle") && decide ((parseMethodDescriptor y.desc).map (fun d => d.parameters.length) = some n) && Nat.ble maxL 41
theorem so_ckyb_at {T1 T2 : List Cond} {own : String} {j : Nat} {y : MethodName} {w0 : Cond} {maxL n : Nat} (hT : ∀ w ∈ T1, w ∈ T2) (hw : w0 ∈ T2) (h : so_ckyb T1 own j y maxL n = true) : so_cky T2 own j y w0 maxL n = true := by
  unfold so_ckyb at h
  unfold so_cky
  simp only [Bool.and_eq_true] at h ⊢
  obtain ⟨⟨⟨⟨⟨k1, k2⟩, k4⟩, k5⟩, k6⟩, k7⟩ := h
  exact ⟨⟨⟨⟨⟨⟨sq_dec hT k1, sq_dec hT k2⟩, decide_eq_true hw⟩, k4⟩, k5⟩, k6⟩, k7⟩
def so_ckzb (Ts : List Cond) (y : MethodName) (maxL n : Nat) : Bool := decide (Cond.initialized y.cls ∈ Ts) && decide (y.cls ≠ "java/lang/invoke/MethodHandle") && decide (y.cls ≠ "java/lang/invoke/VarHandle") && decide ((parseMethodDescriptor y.desc).map (fun d => d.parameters.length) = some n) && Nat.ble maxL 41
theorem so_ckzb_at {T1 T2 : List Cond} {y : MethodName} {w0 : Cond} {maxL n : Nat} (hT : ∀ w ∈ T1, w ∈ T2) (hw : w0 ∈ T2) (h : so_ckzb T1 y maxL n = true) : so_ckz T2 y w0 maxL n = true := by
  unfold so_ckzb at h
  unfold so_ckz
  simp only [Bool.and_eq_true] at h ⊢
  obtain ⟨⟨⟨⟨k2, k4⟩, k5⟩, k6⟩, k7⟩ := h
  exact ⟨⟨⟨⟨⟨sq_dec hT k2, decide_eq_true hw⟩, k4⟩, k5⟩, k6⟩, k7⟩
def so_bC2 (Ts Bs : List Cond) (cl : List vw_C) (I J : so_I) (o y : Nat) (i : Instr) : Bool := match i with
  | .invokestatic j => o == 20 && decide (Cond.static J.1 ∈ Ts) && so_ckyb Ts I.1.cls j J.1 J.2.2.1 y && Nat.ble y J.2.2.1
  | .invokespecial j => o == 21 && J.2.2.2.2.isEmpty && decide (J.2.2.2.1 = none) && J.1.name == "<init>" && decide (Cond.instanceMethod J.1 ∈ Ts) && Nat.ble y J.2.2.1 && Nat.blt 0 y && (so_ckyb Ts I.1.cls j J.1 J.2.2.1 (y - 1) || (so_ckzb Ts J.1 J.2.2.1 (y - 1) && Bs.any (so_bn I.1.cls j J.1)))
  | .invokevirtual j => o == 10 && J.2.2.2.2.isEmpty && Nat.blt (y / 100) 999 && (match cl[y / 100]? with | some q => q.1 == J.1.cls | none => false) && decide (Cond.instanceMethod J.1 ∈ Ts) && decide (Cond.selects J.1.cls J.1 J.1 ∈ Ts) && Nat.ble (y % 100) J.2.2.1 && Nat.blt 0 (y % 100) && so_ckyb Ts I.1.cls j J.1 J.2.2.1 (y % 100 - 1)
  | _ => false
def so_bC (mi : Nat → Option so_I) (Ts Bs : List Cond) (cl : List vw_C) (I : so_I) (o x y n : Nat) (i : Instr) : Bool := n == 3 && match mi x with
  | some J => so_bC2 Ts Bs cl I J o y i
  | none => false
theorem so_bC_at {mi : Nat → Option so_I} {T1 B1 Ts Bs : List Cond} {cl : List vw_C} {I : so_I} {pc o x y n : Nat} {i : Instr} (hW : ∀ x J, mi x = some J → so_w0 J ∈ Ts) (hT : ∀ w ∈ T1, w ∈ Ts) (hB : ∀ w ∈ B1, w ∈ Bs) (hd : decode I.2.1 pc = .ok (i, n)) (h : so_bC mi T1 B1 cl I o x y n i = true) : so_eC mi Ts Bs cl I pc o x y := by
  unfold so_bC at h
  rw [Bool.and_eq_true, beq_iff_eq] at h
  obtain ⟨rfl, h⟩ := h
  cases hJ : mi x with
  | none => rw [hJ] at h; cases h
  | some J =>
    rw [hJ] at h
    dsimp only at h
    unfold so_bC2 at h
    split at h
    · next j =>
      simp only [Bool.and_eq_true, beq_iff_eq] at h
      obtain ⟨⟨⟨h1, h2⟩, h3⟩, h4⟩ := h
      exact ⟨j, J, hJ, Or.inl ⟨h1, hd, hT _ (of_decide_eq_true h2), so_ckyb_at hT (hW x J hJ) h3, Nat.le_of_ble_eq_true h4⟩⟩
    · next j =>
      simp only [Bool.and_eq_true, beq_iff_eq, List.isEmpty_iff] at h
      obtain ⟨⟨⟨⟨⟨⟨⟨h1, h2⟩, h3⟩, h4⟩, h5⟩, h6⟩, h7⟩, h8⟩ := h
      have h7 := so_blt.mp h7
      rw [Bool.or_eq_true, Bool.and_eq_true] at h8
      rcases h8 with h8 | ⟨h8, h9⟩
      · exact ⟨j, J, hJ, Or.inr (Or.inl ⟨h1, hd, h2, of_decide_eq_true h3, h4, hT _ (of_decide_eq_true h5), Nat.le_of_ble_eq_true h6, y - 1, by omega, so_ckyb_at hT (hW x J hJ) h8⟩)⟩
      · obtain ⟨w, hw, hw2⟩ := List.any_eq_true.mp h9
        obtain ⟨host, rfl⟩ := so_bn_at hw2
        exact ⟨j, J, hJ, Or.inr (Or.inr (Or.inl ⟨h1, hd, h2, of_decide_eq_true h3, h4, hT _ (of_decide_eq_true h5), Nat.le_of_ble_eq_true h6, ⟨host, hB _ hw⟩, y - 1, by omega, so_ckzb_at hT (hW x J hJ) h8⟩))⟩
    · next j =>
      simp only [Bool.and_eq_true, beq_iff_eq, List.isEmpty_iff] at h
      obtain ⟨⟨⟨⟨⟨⟨⟨⟨h1, h2⟩, h3⟩, h4⟩, h5⟩, h6⟩, h7⟩, h8⟩, h9⟩ := h
      have h8 := so_blt.mp h8
      refine ⟨j, J, hJ, Or.inr (Or.inr (Or.inr ⟨h1, hd, h2, so_blt.mp h3, ?_, hT _ (of_decide_eq_true h5), hT _ (of_decide_eq_true h6), Nat.le_of_ble_eq_true h7, y % 100 - 1, by omega, so_ckyb_at hT (hW x J hJ) h9⟩))⟩
      cases hq : cl[y / 100]? with
      | none => rw [hq] at h4; cases h4
      | some q => rw [hq] at h4; exact ⟨q, rfl, beq_iff_eq.mp h4⟩
    · cases h
noncomputable def so_bE (mi : Nat → Option so_I) (Ts Bs : List Cond) (cl : List vw_C) (strs : List (String × Nat × String)) (I : so_I) (cd : so_C) (pc : Nat) : Bool := match cd pc with
  | none => true
  | some (o, x, y, len) => match decode I.2.1 pc with
    | .ok (i, n) => (n == len && so_chkA Ts cl I.1.cls I.1.name I.2.2.1 pc i o x y len) || so_bR i n o I.2.2.2.1 || so_bT Ts Bs strs I pc o x n i || so_bC mi Ts Bs cl I o x y n i
    | _ => false
/-- all entries of a method -/
theorem so_bM {mi : Nat → Option so_I} {T1 B1 Ts Bs : List Cond} {cl : List vw_C} {strs : List (String × Nat × String)} {I : so_I} {n : Nat} {t : so_C} (hW : ∀ x J, mi x = some J → so_w0 J ∈ Ts) (hT : ∀ w ∈ T1, w ∈ Ts) (hB : ∀ w ∈ B1, w ∈ Bs) (h : (List.range n).all (so_bE mi T1 B1 cl strs I t) = true) :
    ∀ pc o x y len, so_bd n t pc = some (o, x, y, len) → so_eA Ts cl I pc o x y len ∨ so_eR I pc o ∨ so_eT Ts Bs strs I pc o x ∨ so_eC mi Ts Bs cl I pc o x y := by
  intro pc o x y len hE
  obtain ⟨hlt, hE⟩ := so_bd_at hE
  have h1 := List.all_eq_true.mp h pc (List.mem_range.mpr hlt)
  unfold so_bE at h1
  rw [hE] at h1
  dsimp only at h1
  split at h1
  · next i n9 hd =>
    simp only [Bool.or_eq_true, Bool.and_eq_true, beq_iff_eq] at h1
    rcases h1 with ((⟨rfl, h1⟩ | h1) | h1) | h1
    · exact Or.inl ⟨i, hd, sq_chkA hT h1⟩
    · exact Or.inr (Or.inl (so_bR_at hd h1))
    · exact Or.inr (Or.inr (Or.inl (so_bT_at hT hB hd h1)))
    · exact Or.inr (Or.inr (Or.inr (so_bC_at hW hT hB hd h1)))
  · cases h1
end SMCK
