/-! ===== a decoder over plain bytes, proved against the machine's; a method's bytes read once ===== -/
section SMDC
theorem sd_u1 {code : ByteArray} {p b : Nat} (h : p < code.size) (e : code[p].toNat = b) : (Reader.u1 : Decoder Nat) code p = .ok (b, p + 1) := by
  unfold Reader.u1
  show (if h : p < code.size then _ else _ : Decoder Nat) code p = _
  rw [dif_pos h]
  subst e
  rfl
theorem sd_bind {α β : Type} {r : Decoder α} {f : α → Decoder β} {code : ByteArray} {p s : Nat} {a : α} (h : r code p = .ok (a, s)) : (r >>= f) code p = f a code s := by
  have h2 : (r >>= f) code p = (match r code p with | .error e => Except.error e | .ok (a, s) => f a code s) := by
    show (do let (a, s) ← r code p; f a code s : Except DecodeError (β × Nat)) = _
    cases r code p <;> rfl
  rw [h2, h]
theorem sd_map {α β : Type} {r : Decoder α} {f : α → β} {code : ByteArray} {p s : Nat} {a : α} (h : r code p = .ok (a, s)) : (f <$> r) code p = .ok (f a, s) := by
  have h2 : (f <$> r) code p = (match r code p with | .error e => Except.error e | .ok (a, s) => .ok (f a, s)) := by
    show (do let (a, s) ← r code p; pure (f a, s) : Except DecodeError (β × Nat)) = _
    cases r code p <;> rfl
  rw [h2, h]
theorem sd_u2 {code : ByteArray} {p b1 b2 : Nat} (h1 : (Reader.u1 : Decoder Nat) code p = .ok (b1, p + 1)) (h2 : (Reader.u1 : Decoder Nat) code (p + 1) = .ok (b2, p + 2)) : (Reader.u2 : Decoder Nat) code p = .ok (b1 * 256 + b2, p + 2) := (sd_bind h1).trans ((sd_bind h2).trans rfl)
theorem sd_dec {code : ByteArray} {pc s : Nat} {i : Instr} (h : Decoder.instr pc code pc = .ok (i, s)) : decode code pc = .ok (i, s - pc) := by
  have : decode code pc = (match Decoder.instr pc code pc with | .error x => .error x | .ok (j, s) => .ok (j, s - pc)) := by
    show (do let (j, s) ← Decoder.instr pc code pc; Pure.pure (j, s - pc) : Except DecodeError (Instr × Nat)) = _
    cases Decoder.instr pc code pc <;> rfl
  rw [this, h]
noncomputable def so_v1 {α : Type} (t : List Nat) (k : Nat → Option α) : Option α := List.rec (motive := fun _ => Option α) none (fun a _ _ => k a) t
noncomputable def so_v2 {α : Type} (t : List Nat) (k : Nat → Option α) : Option α := List.rec (motive := fun _ => Option α) none (fun a t _ => List.rec (motive := fun _ => Option α) none (fun b _ _ => so_fn (Nat.add (Nat.mul a 256) b) k) t) t
noncomputable def so_vi (t : List Nat) : Option (Instr × Nat) := List.rec (motive := fun _ => Option (Instr × Nat)) none (fun a t _ => List.rec (motive := fun _ => Option (Instr × Nat)) none (fun b _ _ => some (.iinc a (Reader.signed 8 b), 3)) t) t
noncomputable def so_vn (t : List Nat) : Option (Instr × Nat) := List.rec (motive := fun _ => Option (Instr × Nat)) none (fun a _ _ => so_if (Nat.beq a 10) (some (.newarray .int, 2)) (so_if (Nat.beq a 11) (some (.newarray .long, 2)) none)) t
/-- what is decoded here, the machine decodes -/
def so_dP (code : ByteArray) (pc : Nat) (X : Option (Instr × Nat)) : Prop := ∀ i n, X = some (i, n) → decode code pc = .ok (i, n)
variable {code : ByteArray} {pc b m : Nat} {t : List Nat}
theorem sl_br {k n : Nat} {X Y : Option (Instr × Nat)} (h1 : so_dP code pc X) (h2 : so_dP code pc Y) : so_dP code pc (so_br k n X Y) := by
  unfold so_br
  cases Nat.blt k n
  · exact h2
  · exact h1
theorem sl_A {I : Instr} (h0 : (Reader.u1 : Decoder Nat) code pc = .ok (b, pc + 1)) (hI : (Reader.u1 : Decoder Nat) code pc = .ok (m, pc + 1) → Decoder.instr pc code pc = .ok (I, pc + 1)) : so_dP code pc (so_if (Nat.beq b m) (some (I, 1)) none) := by
  intro i n h
  obtain ⟨g1, g2⟩ := si_if h
  have e := Nat.eq_of_beq_eq_true g1
  subst e
  cases g2
  rw [sd_dec (hI h0), Nat.add_sub_cancel_left]
theorem sl_B {I : Nat → Instr} (h0 : (Reader.u1 : Decoder Nat) code pc = .ok (b, pc + 1)) (h1 : ∀ a t', t = a :: t' → (Reader.u1 : Decoder Nat) code (pc + 1) = .ok (a, pc + 2)) (hI : ∀ a, (Reader.u1 : Decoder Nat) code pc = .ok (m, pc + 1) → (Reader.u1 : Decoder Nat) code (pc + 1) = .ok (a, pc + 2) → Decoder.instr pc code pc = .ok (I a, pc + 2)) : so_dP code pc (so_if (Nat.beq b m) (so_v1 t (fun a => some (I a, 2))) none) := by
  intro i n h
  obtain ⟨g1, g2⟩ := si_if h
  have e := Nat.eq_of_beq_eq_true g1
  subst e
  cases t with
  | nil => cases g2
  | cons a t' =>
    have g2 : some (I a, 2) = some (i, n) := g2
    cases g2
    rw [sd_dec (hI a h0 (h1 a t' rfl)), Nat.add_sub_cancel_left]
theorem sl_C {I : Nat → Instr} (h0 : (Reader.u1 : Decoder Nat) code pc = .ok (b, pc + 1)) (h1 : ∀ a t', t = a :: t' → (Reader.u1 : Decoder Nat) code (pc + 1) = .ok (a, pc + 2)) (h2 : ∀ a a' t', t = a :: a' :: t' → (Reader.u1 : Decoder Nat) code (pc + 1 + 1) = .ok (a', pc + 1 + 2)) (hI : ∀ a, (Reader.u1 : Decoder Nat) code pc = .ok (m, pc + 1) → (Reader.u2 : Decoder Nat) code (pc + 1) = .ok (a, pc + 1 + 2) → Decoder.instr pc code pc = .ok (I a, pc + 1 + 2)) : so_dP code pc (so_if (Nat.beq b m) (so_v2 t (fun a => some (I a, 3))) none) := by
  intro i n h
  obtain ⟨g1, g2⟩ := si_if h
  have e := Nat.eq_of_beq_eq_true g1
  subst e
  cases t with
  | nil => cases g2
  | cons a t' =>
    cases t' with
    | nil => cases g2
    | cons a' t' =>
      have g2 : so_fn (Nat.add (Nat.mul a 256) a') (fun a => some (I a, 3)) = some (i, n) := g2
      rw [so_fn_eq] at g2
      have g2 : some (I (a * 256 + a'), 3) = some (i, n) := g2
      cases g2
      rw [sd_dec (hI _ h0 (sd_u2 (h1 a _ rfl) (h2 a a' t' rfl)))]
      have : pc + 1 + 2 - pc = 3 := by omega
      rw [this]
theorem sl_D (h0 : (Reader.u1 : Decoder Nat) code pc = .ok (b, pc + 1)) (h1 : ∀ a t', t = a :: t' → (Reader.u1 : Decoder Nat) code (pc + 1) = .ok (a, pc + 2)) (h2 : ∀ a a' t', t = a :: a' :: t' → (Reader.u1 : Decoder Nat) code (pc + 1 + 1) = .ok (a', pc + 1 + 2)) : so_dP code pc (so_if (Nat.beq b 132) (so_vi t) none) := by
  intro i n h
  obtain ⟨g1, g2⟩ := si_if h
  have e := Nat.eq_of_beq_eq_true g1
  subst e
  cases t with
  | nil => cases g2
  | cons a t' =>
    cases t' with
    | nil => cases g2
    | cons a' t' =>
      have g2 : some (Instr.iinc a (Reader.signed 8 a'), 3) = some (i, n) := g2
      cases g2
      have hI : Decoder.instr pc code pc = .ok (.iinc a (Reader.signed 8 a'), pc + 1 + 2) := (sd_bind h0).trans ((sd_bind (h1 a _ rfl)).trans ((sd_bind (sd_map (h2 a a' t' rfl))).trans rfl))
      rw [sd_dec hI]
      have : pc + 1 + 2 - pc = 3 := by omega
      rw [this]
theorem sl_E (h0 : (Reader.u1 : Decoder Nat) code pc = .ok (b, pc + 1)) (h1 : ∀ a t', t = a :: t' → (Reader.u1 : Decoder Nat) code (pc + 1) = .ok (a, pc + 2)) : so_dP code pc (so_if (Nat.beq b 188) (so_vn t) none) := by
  intro i n h
  obtain ⟨g1, g2⟩ := si_if h
  have e := Nat.eq_of_beq_eq_true g1
  subst e
  cases t with
  | nil => cases g2
  | cons a t' =>
    have g2 : so_if (Nat.beq a 10) (some (.newarray .int, 2)) (so_if (Nat.beq a 11) (some (.newarray .long, 2)) none) = some (i, n) := g2
    have h2 := h1 a t' rfl
    cases hb : Nat.beq a 10 with
    | true =>
      rw [hb] at g2
      have e := Nat.eq_of_beq_eq_true hb
      subst e
      cases g2
      have hI : Decoder.instr pc code pc = .ok (.newarray .int, pc + 2) := (sd_bind h0).trans ((sd_bind h2).trans rfl)
      rw [sd_dec hI, Nat.add_sub_cancel_left]
    | false =>
      rw [hb] at g2
      obtain ⟨g3, g4⟩ := si_if (b := Nat.beq a 11) g2
      have e := Nat.eq_of_beq_eq_true g3
      subst e
      cases g4
      have hI : Decoder.instr pc code pc = .ok (.newarray .long, pc + 2) := (sd_bind h0).trans ((sd_bind h2).trans rfl)
      rw [sd_dec hI, Nat.add_sub_cancel_left]

noncomputable def so_dt (b : Nat) (t : List Nat) : Option (Instr × Nat) := (so_br b 87 (so_br b 29 (so_br b 16 (so_br b 6 (so_br b 4 (so_br b 3 (so_if (Nat.beq b 2) (some (.iconst (-1), 1)) none) (so_if (Nat.beq b 3) (some (.iconst 0, 1)) none)) (so_br b 5 (so_if (Nat.beq b 4) (some (.iconst 1, 1)) none) (so_if (Nat.beq b 5) (some (.iconst 2, 1)) none))) (so_br b 8 (so_br b 7 (so_if (Nat.beq b 6) (some (.iconst 3, 1)) none) (so_if (Nat.beq b 7) (some (.iconst 4, 1)) none)) (so_br b 9 (so_if (Nat.beq b 8) (some (.iconst 5, 1)) none) (so_br b 10 (so_if (Nat.beq b 9) (some (.lconst 0, 1)) none) (so_if (Nat.beq b 10) (some (.lconst 1, 1)) none))))) (so_br b 21 (so_br b 18 (so_br b 17 (so_if (Nat.beq b 16) (so_v1 t (fun a => some (.bipush (Reader.signed 8 a), 2))) none) (so_if (Nat.beq b 17) (so_v2 t (fun a => some (.sipush (Reader.signed 16 a), 3))) none)) (so_br b 19 (so_if (Nat.beq b 18) (so_v1 t (fun a => some (.ldc a, 2))) none) (so_if (Nat.beq b 19) (so_v2 t (fun a => some (.ldc_w a, 3))) none))) (so_br b 26 (so_br b 25 (so_if (Nat.beq b 21) (so_v1 t (fun a => some (.iload a, 2))) none) (so_if (Nat.beq b 25) (so_v1 t (fun a => some (.aload a, 2))) none)) (so_br b 27 (so_if (Nat.beq b 26) (some (.iload_n 0, 1)) none) (so_br b 28 (so_if (Nat.beq b 27) (some (.iload_n 1, 1)) none) (so_if (Nat.beq b 28) (some (.iload_n 2, 1)) none)))))) (so_br b 59 (so_br b 45 (so_br b 43 (so_br b 42 (so_if (Nat.beq b 29) (some (.iload_n 3, 1)) none) (so_if (Nat.beq b 42) (some (.aload_n 0, 1)) none)) (so_br b 44 (so_if (Nat.beq b 43) (some (.aload_n 1, 1)) none) (so_if (Nat.beq b 44) (some (.aload_n 2, 1)) none))) (so_br b 47 (so_br b 46 (so_if (Nat.beq b 45) (some (.aload_n 3, 1)) none) (so_if (Nat.beq b 46) (some (.iaload, 1)) none)) (so_br b 54 (so_if (Nat.beq b 47) (some (.laload, 1)) none) (so_br b 58 (so_if (Nat.beq b 54) (so_v1 t (fun a => some (.istore a, 2))) none) (so_if (Nat.beq b 58) (so_v1 t (fun a => some (.astore a, 2))) none))))) (so_br b 76 (so_br b 61 (so_br b 60 (so_if (Nat.beq b 59) (some (.istore_n 0, 1)) none) (so_if (Nat.beq b 60) (some (.istore_n 1, 1)) none)) (so_br b 62 (so_if (Nat.beq b 61) (some (.istore_n 2, 1)) none) (so_br b 75 (so_if (Nat.beq b 62) (some (.istore_n 3, 1)) none) (so_if (Nat.beq b 75) (some (.astore_n 0, 1)) none)))) (so_br b 78 (so_br b 77 (so_if (Nat.beq b 76) (some (.astore_n 1, 1)) none) (so_if (Nat.beq b 77) (some (.astore_n 2, 1)) none)) (so_br b 79 (so_if (Nat.beq b 78) (some (.astore_n 3, 1)) none) (so_br b 80 (so_if (Nat.beq b 79) (some (.iastore, 1)) none) (so_if (Nat.beq b 80) (some (.lastore, 1)) none))))))) (so_br b 159 (so_br b 132 (so_br b 104 (so_br b 96 (so_br b 89 (so_if (Nat.beq b 87) (some (.pop, 1)) none) (so_if (Nat.beq b 89) (some (.dup, 1)) none)) (so_br b 100 (so_if (Nat.beq b 96) (some (.iadd, 1)) none) (so_if (Nat.beq b 100) (some (.isub, 1)) none))) (so_br b 124 (so_br b 120 (so_if (Nat.beq b 104) (some (.imul, 1)) none) (so_if (Nat.beq b 120) (some (.ishl, 1)) none)) (so_br b 126 (so_if (Nat.beq b 124) (some (.iushr, 1)) none) (so_br b 130 (so_if (Nat.beq b 126) (some (.iand, 1)) none) (so_if (Nat.beq b 130) (some (.ixor, 1)) none))))) (so_br b 154 (so_br b 148 (so_br b 133 (so_if (Nat.beq b 132) (so_vi t) none) (so_if (Nat.beq b 133) (some (.i2l, 1)) none)) (so_br b 153 (so_if (Nat.beq b 148) (some (.lcmp, 1)) none) (so_if (Nat.beq b 153) (so_v2 t (fun a => some (.ifCond .eq (Reader.signed 16 a), 3))) none))) (so_br b 156 (so_br b 155 (so_if (Nat.beq b 154) (so_v2 t (fun a => some (.ifCond .ne (Reader.signed 16 a), 3))) none) (so_if (Nat.beq b 155) (so_v2 t (fun a => some (.ifCond .lt (Reader.signed 16 a), 3))) none)) (so_br b 157 (so_if (Nat.beq b 156) (so_v2 t (fun a => some (.ifCond .ge (Reader.signed 16 a), 3))) none) (so_br b 158 (so_if (Nat.beq b 157) (so_v2 t (fun a => some (.ifCond .gt (Reader.signed 16 a), 3))) none) (so_if (Nat.beq b 158) (so_v2 t (fun a => some (.ifCond .le (Reader.signed 16 a), 3))) none)))))) (so_br b 177 (so_br b 163 (so_br b 161 (so_br b 160 (so_if (Nat.beq b 159) (so_v2 t (fun a => some (.if_icmp .eq (Reader.signed 16 a), 3))) none) (so_if (Nat.beq b 160) (so_v2 t (fun a => some (.if_icmp .ne (Reader.signed 16 a), 3))) none)) (so_br b 162 (so_if (Nat.beq b 161) (so_v2 t (fun a => some (.if_icmp .lt (Reader.signed 16 a), 3))) none) (so_if (Nat.beq b 162) (so_v2 t (fun a => some (.if_icmp .ge (Reader.signed 16 a), 3))) none))) (so_br b 167 (so_br b 164 (so_if (Nat.beq b 163) (so_v2 t (fun a => some (.if_icmp .gt (Reader.signed 16 a), 3))) none) (so_if (Nat.beq b 164) (so_v2 t (fun a => some (.if_icmp .le (Reader.signed 16 a), 3))) none)) (so_br b 172 (so_if (Nat.beq b 167) (so_v2 t (fun a => some (.goto (Reader.signed 16 a), 3))) none) (so_br b 176 (so_if (Nat.beq b 172) (some (.ireturn, 1)) none) (so_if (Nat.beq b 176) (some (.areturn, 1)) none))))) (so_br b 184 (so_br b 181 (so_br b 180 (so_if (Nat.beq b 177) (some (.return_, 1)) none) (so_if (Nat.beq b 180) (so_v2 t (fun a => some (.getfield a, 3))) none)) (so_br b 182 (so_if (Nat.beq b 181) (so_v2 t (fun a => some (.putfield a, 3))) none) (so_br b 183 (so_if (Nat.beq b 182) (so_v2 t (fun a => some (.invokevirtual a, 3))) none) (so_if (Nat.beq b 183) (so_v2 t (fun a => some (.invokespecial a, 3))) none)))) (so_br b 188 (so_br b 187 (so_if (Nat.beq b 184) (so_v2 t (fun a => some (.invokestatic a, 3))) none) (so_if (Nat.beq b 187) (so_v2 t (fun a => some (.new a, 3))) none)) (so_br b 190 (so_if (Nat.beq b 188) (so_vn t) none) (so_br b 191 (so_if (Nat.beq b 190) (some (.arraylength, 1)) none) (so_if (Nat.beq b 191) (some (.athrow, 1)) none))))))))
theorem so_dt_at (h0 : (Reader.u1 : Decoder Nat) code pc = .ok (b, pc + 1)) (h1 : ∀ a t', t = a :: t' → (Reader.u1 : Decoder Nat) code (pc + 1) = .ok (a, pc + 2)) (h2 : ∀ a a' t', t = a :: a' :: t' → (Reader.u1 : Decoder Nat) code (pc + 1 + 1) = .ok (a', pc + 1 + 2)) : so_dP code pc (so_dt b t) := (sl_br (sl_br (sl_br (sl_br (sl_br (sl_br (sl_A h0 (fun h => (sd_bind h).trans rfl)) (sl_A h0 (fun h => (sd_bind h).trans rfl))) (sl_br (sl_A h0 (fun h => (sd_bind h).trans rfl)) (sl_A h0 (fun h => (sd_bind h).trans rfl)))) (sl_br (sl_br (sl_A h0 (fun h => (sd_bind h).trans rfl)) (sl_A h0 (fun h => (sd_bind h).trans rfl))) (sl_br (sl_A h0 (fun h => (sd_bind h).trans rfl)) (sl_br (sl_A h0 (fun h => (sd_bind h).trans rfl)) (sl_A h0 (fun h => (sd_bind h).trans rfl)))))) (sl_br (sl_br (sl_br (sl_B h0 h1 (fun a h k => (sd_bind h).trans ((sd_bind (sd_map k)).trans rfl))) (sl_C h0 h1 h2 (fun a h k => (sd_bind h).trans ((sd_bind (sd_map k)).trans rfl)))) (sl_br (sl_B h0 h1 (fun a h k => (sd_bind h).trans ((sd_bind k).trans rfl))) (sl_C h0 h1 h2 (fun a h k => (sd_bind h).trans ((sd_bind k).trans rfl))))) (sl_br (sl_br (sl_B h0 h1 (fun a h k => (sd_bind h).trans ((sd_bind k).trans rfl))) (sl_B h0 h1 (fun a h k => (sd_bind h).trans ((sd_bind k).trans rfl)))) (sl_br (sl_A h0 (fun h => (sd_bind h).trans rfl)) (sl_br (sl_A h0 (fun h => (sd_bind h).trans rfl)) (sl_A h0 (fun h => (sd_bind h).trans rfl))))))) (sl_br (sl_br (sl_br (sl_br (sl_A h0 (fun h => (sd_bind h).trans rfl)) (sl_A h0 (fun h => (sd_bind h).trans rfl))) (sl_br (sl_A h0 (fun h => (sd_bind h).trans rfl)) (sl_A h0 (fun h => (sd_bind h).trans rfl)))) (sl_br (sl_br (sl_A h0 (fun h => (sd_bind h).trans rfl)) (sl_A h0 (fun h => (sd_bind h).trans rfl))) (sl_br (sl_A h0 (fun h => (sd_bind h).trans rfl)) (sl_br (sl_B h0 h1 (fun a h k => (sd_bind h).trans ((sd_bind k).trans rfl))) (sl_B h0 h1 (fun a h k => (sd_bind h).trans ((sd_bind k).trans rfl))))))) (sl_br (sl_br (sl_br (sl_A h0 (fun h => (sd_bind h).trans rfl)) (sl_A h0 (fun h => (sd_bind h).trans rfl))) (sl_br (sl_A h0 (fun h => (sd_bind h).trans rfl)) (sl_br (sl_A h0 (fun h => (sd_bind h).trans rfl)) (sl_A h0 (fun h => (sd_bind h).trans rfl))))) (sl_br (sl_br (sl_A h0 (fun h => (sd_bind h).trans rfl)) (sl_A h0 (fun h => (sd_bind h).trans rfl))) (sl_br (sl_A h0 (fun h => (sd_bind h).trans rfl)) (sl_br (sl_A h0 (fun h => (sd_bind h).trans rfl)) (sl_A h0 (fun h => (sd_bind h).trans rfl)))))))) (sl_br (sl_br (sl_br (sl_br (sl_br (sl_A h0 (fun h => (sd_bind h).trans rfl)) (sl_A h0 (fun h => (sd_bind h).trans rfl))) (sl_br (sl_A h0 (fun h => (sd_bind h).trans rfl)) (sl_A h0 (fun h => (sd_bind h).trans rfl)))) (sl_br (sl_br (sl_A h0 (fun h => (sd_bind h).trans rfl)) (sl_A h0 (fun h => (sd_bind h).trans rfl))) (sl_br (sl_A h0 (fun h => (sd_bind h).trans rfl)) (sl_br (sl_A h0 (fun h => (sd_bind h).trans rfl)) (sl_A h0 (fun h => (sd_bind h).trans rfl)))))) (sl_br (sl_br (sl_br (sl_D h0 h1 h2) (sl_A h0 (fun h => (sd_bind h).trans rfl))) (sl_br (sl_A h0 (fun h => (sd_bind h).trans rfl)) (sl_C h0 h1 h2 (fun a h k => (sd_bind h).trans ((sd_bind (sd_map k)).trans rfl))))) (sl_br (sl_br (sl_C h0 h1 h2 (fun a h k => (sd_bind h).trans ((sd_bind (sd_map k)).trans rfl))) (sl_C h0 h1 h2 (fun a h k => (sd_bind h).trans ((sd_bind (sd_map k)).trans rfl)))) (sl_br (sl_C h0 h1 h2 (fun a h k => (sd_bind h).trans ((sd_bind (sd_map k)).trans rfl))) (sl_br (sl_C h0 h1 h2 (fun a h k => (sd_bind h).trans ((sd_bind (sd_map k)).trans rfl))) (sl_C h0 h1 h2 (fun a h k => (sd_bind h).trans ((sd_bind (sd_map k)).trans rfl)))))))) (sl_br (sl_br (sl_br (sl_br (sl_C h0 h1 h2 (fun a h k => (sd_bind h).trans ((sd_bind (sd_map k)).trans rfl))) (sl_C h0 h1 h2 (fun a h k => (sd_bind h).trans ((sd_bind (sd_map k)).trans rfl)))) (sl_br (sl_C h0 h1 h2 (fun a h k => (sd_bind h).trans ((sd_bind (sd_map k)).trans rfl))) (sl_C h0 h1 h2 (fun a h k => (sd_bind h).trans ((sd_bind (sd_map k)).trans rfl))))) (sl_br (sl_br (sl_C h0 h1 h2 (fun a h k => (sd_bind h).trans ((sd_bind (sd_map k)).trans rfl))) (sl_C h0 h1 h2 (fun a h k => (sd_bind h).trans ((sd_bind (sd_map k)).trans rfl)))) (sl_br (sl_C h0 h1 h2 (fun a h k => (sd_bind h).trans ((sd_bind (sd_map k)).trans rfl))) (sl_br (sl_A h0 (fun h => (sd_bind h).trans rfl)) (sl_A h0 (fun h => (sd_bind h).trans rfl)))))) (sl_br (sl_br (sl_br (sl_A h0 (fun h => (sd_bind h).trans rfl)) (sl_C h0 h1 h2 (fun a h k => (sd_bind h).trans ((sd_bind k).trans rfl)))) (sl_br (sl_C h0 h1 h2 (fun a h k => (sd_bind h).trans ((sd_bind k).trans rfl))) (sl_br (sl_C h0 h1 h2 (fun a h k => (sd_bind h).trans ((sd_bind k).trans rfl))) (sl_C h0 h1 h2 (fun a h k => (sd_bind h).trans ((sd_bind k).trans rfl)))))) (sl_br (sl_br (sl_C h0 h1 h2 (fun a h k => (sd_bind h).trans ((sd_bind k).trans rfl))) (sl_C h0 h1 h2 (fun a h k => (sd_bind h).trans ((sd_bind k).trans rfl)))) (sl_br (sl_E h0 h1) (sl_br (sl_A h0 (fun h => (sd_bind h).trans rfl)) (sl_A h0 (fun h => (sd_bind h).trans rfl)))))))))
noncomputable def so_dq (l : List Nat) : Option (Instr × Nat) := List.rec (motive := fun _ => Option (Instr × Nat)) none (fun b t _ => so_dt b t) l
theorem so_dq_at {l : List Nat} (hb : ∀ j b, l[j]? = some b → (Reader.u1 : Decoder Nat) code (pc + j) = .ok (b, pc + j + 1)) : so_dP code pc (so_dq l) := by
  cases l with
  | nil => intro i n h; cases h
  | cons b t =>
    refine so_dt_at (hb 0 b rfl) (fun a t' e => ?_) (fun a a' t' e => ?_)
    · subst e
      exact hb 1 a rfl
    · subst e
      exact hb 2 a' rfl
/-- the bytes from here on begin so -/
noncomputable def so_pf (m : List Nat) : List UInt8 → Bool := List.rec (motive := fun _ => List UInt8 → Bool) (fun _ => true) (fun b _ ih l => List.rec (motive := fun _ => Bool) false (fun u t _ => so_if (Nat.beq u.toNat b) (ih t) false) l) m
theorem so_pf_at : ∀ (m : List Nat) (l : List UInt8), so_pf m l = true → ∀ (j b : Nat), m[j]? = some b → ∃ u : UInt8, l[j]? = some u ∧ u.toNat = b := by
  intro m
  induction m with
  | nil => intro l h j b hj; cases j <;> cases hj
  | cons c m ih =>
    intro l h j b hj
    cases l with
    | nil => cases h
    | cons u l =>
      have h : so_if (Nat.beq u.toNat c) (so_pf m l) false = true := h
      obtain ⟨h1, h2⟩ := so_if_t h
      cases j with
      | zero =>
        cases hj
        exact ⟨u, rfl, Nat.eq_of_beq_eq_true h1⟩
      | succ j => exact ih l h2 j b hj
theorem so_pf_u1 {a : Nat} {m : List Nat} (h : so_pf m (code.data.toList.drop a) = true) (j b : Nat) (hj : m[j]? = some b) : (Reader.u1 : Decoder Nat) code (a + j) = .ok (b, a + j + 1) := by
  obtain ⟨u, h1, h2⟩ := so_pf_at m _ h j b hj
  rw [List.getElem?_drop] at h1
  obtain ⟨h3, h4⟩ := List.getElem?_eq_some_iff.mp h1
  have h5 : a + j < code.size := by simpa using h3
  refine sd_u1 h5 ?_
  rw [← h2, ← h4]
  rfl
/-- bytes are walked once -/
noncomputable def so_wk (f : Nat → List Nat → Bool) (m : List Nat) : Nat → Bool := List.rec (motive := fun _ => Nat → Bool) (fun _ => true) (fun b t ih pc => so_if (f pc (b :: t)) (so_fn (Nat.succ pc) ih) false) m
theorem so_wk_at {f : Nat → List Nat → Bool} : ∀ (m : List Nat) (a : Nat), so_wk f m a = true → ∀ j, j < m.length → f (a + j) (m.drop j) = true := by
  intro m
  induction m with
  | nil => intro a h j hj; cases hj
  | cons b t ih =>
    intro a h j hj
    have h : so_if (f a (b :: t)) (so_fn (Nat.succ a) (so_wk f t)) false = true := h
    obtain ⟨h1, h2⟩ := so_if_t h
    rw [so_fn_eq] at h2
    cases j with
    | zero => exact h1
    | succ j =>
      have := ih (a + 1) h2 j (by simpa using hj)
      rw [List.drop_succ_cons]
      have e : a + (j + 1) = a + 1 + j := by omega
      rw [e]
      exact this
noncomputable def so_bB (mi : Nat → Option so_I) (Ts Bs : List Cond) (cl : List vw_C) (strs : List (String × Nat × String)) (I : so_I) (pc o x y len : Nat) (i : Instr) (n : Nat) : Bool := (n == len && so_chkA Ts cl I.1.cls I.1.name I.2.2.1 pc i o x y len) || so_bR i n o I.2.2.2.1 || so_bT Ts Bs strs I pc o x n i || so_bC mi Ts Bs cl I o x y n i
noncomputable def so_bY (mi : Nat → Option so_I) (Ts Bs : List Cond) (cl : List vw_C) (strs : List (String × Nat × String)) (I : so_I) (t : so_C) (pc : Nat) (l : List Nat) : Bool := match t pc with
  | none => true
  | some (o, x, y, len) => match so_dq l with
    | some (i, n) => so_bB mi Ts Bs cl strs I pc o x y len i n
    | none => so_bE mi Ts Bs cl strs I t pc
noncomputable def so_bX (mi : Nat → Option so_I) (Ts Bs : List Cond) (cl : List vw_C) (strs : List (String × Nat × String)) (I : so_I) (t : so_C) (b : Nat) (pc : Nat) (l : List Nat) : Bool := so_if (Nat.blt pc b) (so_bY mi Ts Bs cl strs I t pc l) true
theorem so_bY_at {mi : Nat → Option so_I} {Ts Bs : List Cond} {cl : List vw_C} {strs : List (String × Nat × String)} {I : so_I} {t : so_C} {pc : Nat} {l : List Nat} (hb : so_dP I.2.1 pc (so_dq l)) (h : so_bY mi Ts Bs cl strs I t pc l = true) : so_bE mi Ts Bs cl strs I t pc = true := by
  unfold so_bY at h
  cases hE : t pc with
  | none =>
    unfold so_bE
    rw [hE]
  | some E =>
    obtain ⟨o, x, y, len⟩ := E
    rw [hE] at h
    dsimp only at h
    cases hd : so_dq l with
    | none => rw [hd] at h; exact h
    | some q =>
      obtain ⟨i, n⟩ := q
      rw [hd] at h
      have h2 := hb i n hd
      unfold so_bE
      rw [hE]
      dsimp only
      rw [h2]
      exact h
/-- a segment's check, over its bytes -/
theorem so_bZ {mi : Nat → Option so_I} {Ts Bs : List Cond} {cl : List vw_C} {strs : List (String × Nat × String)} {I : so_I} {t : so_C} (a n : Nat) (m : List Nat) (hw : so_pf m (I.2.1.data.toList.drop a) = true) (hm : Nat.ble n m.length = true) (hk : so_wk (so_bX mi Ts Bs cl strs I t (a + n)) m a = true) : (List.range' a n).all (so_bE mi Ts Bs cl strs I t) = true := by
  refine List.all_eq_true.mpr (fun pc hpc => ?_)
  obtain ⟨h1, h2⟩ := List.mem_range'_1.mp hpc
  have hm := Nat.le_of_ble_eq_true hm
  have h3 := so_wk_at m a hk (pc - a) (by omega)
  have e : a + (pc - a) = pc := by omega
  rw [e] at h3
  unfold so_bX at h3
  rw [sf_if (so_blt.mpr h2)] at h3
  refine so_bY_at (so_dq_at (fun j b hj => ?_)) h3
  rw [List.getElem?_drop] at hj
  have := so_pf_u1 hw (pc - a + j) b hj
  have e2 : a + (pc - a + j) = pc + j := by omega
  rw [e2] at this
  exact this
end SMDC
