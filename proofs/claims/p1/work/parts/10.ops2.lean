/-! ===== constants, arithmetic, branches, the stack ===== -/
section SMS2
variable {p : Program} {l : Launch} {e : Env} {R : Room} {s : State} {m : MethodId} {args : Array Value} {below : List Frame} {meth : Method} {c : Code} {H : Heap} {locs : List Loc} {cells slots : Nat} {Q : State → Prop}
variable {cc : ByteArray} {pc : Nat} {ls : Array Slot} {f : Nat → Nat} {lv : so_L} {st : List Nat} {nL : Nat} {i : Instr} {len x y v a b : Nat} {own : String} {Ts : List Cond}
/-- a constant's code is its value's -/
def so_ck2 (Ts : List Cond) (own : String) (i : Instr) (x len : Nat) : Bool := match i with
  | .iconst n => len == 1 && so_int x && decide (Int32.ofInt n = Int32.ofNat (x / 4))
  | .bipush n => len == 2 && so_int x && decide ((Int8.ofInt n).toInt32 = Int32.ofNat (x / 4))
  | .sipush n => len == 3 && so_int x && decide ((Int16.ofInt n).toInt32 = Int32.ofNat (x / 4))
  | .lconst n => len == 1 && decide (x = 4 * n.val + 3)
  | .ldc j => len == 2 && so_int x && decide (Cond.constant own j (Int32.ofNat (x / 4)) ∈ Ts)
  | .ldc_w j => len == 3 && so_int x && decide (Cond.constant own j (Int32.ofNat (x / 4)) ∈ Ts)
  | _ => false
theorem sw_const (hx : p.tables.exec = Jvm.exec) (hb : c.code = cc) (hown : s.vm.findClass own = some m.cls) (hts : ∀ w ∈ Ts, w.before args s = true) (hk : so_ck2 Ts own i x len = true) (hd : decode cc pc = .ok (i, len))
    (kk : W p l e R s m args below meth c H locs cells slots Q (F0 m (pc + len) ls (so_ms f (x :: st)))) : W p l e R s m args below meth c H locs cells slots Q (F0 m pc ls (so_ms f st)) := by
  have kk : W p l e R s m args below meth c H locs cells slots Q (F0 m (pc + len) ls (so_vl f x :: so_ms f st)) := kk
  unfold so_ck2 at hk
  split at hk
  · simp only [Bool.and_eq_true, beq_iff_eq, decide_eq_true_eq] at hk
    obtain ⟨⟨rfl, h1⟩, h2⟩ := hk
    rw [so_vl_int h1] at kk
    exact lv_iconst hx hb hd h2 kk
  · simp only [Bool.and_eq_true, beq_iff_eq, decide_eq_true_eq] at hk
    obtain ⟨⟨rfl, h1⟩, h2⟩ := hk
    rw [so_vl_int h1] at kk
    exact lv_bipush hx hb hd h2 kk
  · simp only [Bool.and_eq_true, beq_iff_eq, decide_eq_true_eq] at hk
    obtain ⟨⟨rfl, h1⟩, h2⟩ := hk
    rw [so_vl_int h1] at kk
    exact lv_sipush hx hb hd h2 kk
  · simp only [Bool.and_eq_true, beq_iff_eq, decide_eq_true_eq] at hk
    obtain ⟨rfl, rfl⟩ := hk
    rw [so_vl_43] at kk
    exact lv_lconst hx hb hd rfl kk
  · simp only [Bool.and_eq_true, beq_iff_eq, decide_eq_true_eq] at hk
    obtain ⟨⟨rfl, h1⟩, h2⟩ := hk
    rw [so_vl_int h1] at kk
    exact lv_ldc hx hb hown (hts _ h2) hd kk
  · simp only [Bool.and_eq_true, beq_iff_eq, decide_eq_true_eq] at hk
    obtain ⟨⟨rfl, h1⟩, h2⟩ := hk
    rw [so_vl_int h1] at kk
    exact lv_ldcw hx hb hown (hts _ h2) hd kk
  · cases hk
theorem so_shlI (x y : Nat) : Int32.ofNat (so_shl x y) = Int32.ofNat x <<< (Int32.ofNat y &&& 31) := by
  have e31 : Int32.ofNat y &&& 31 = Int32.ofNat (y % 32) := by
    apply Int32.toBitVec_inj.mp
    rw [Int32.toBitVec_and, so_bv, so_bv]
    apply BitVec.eq_of_toNat_eq
    show ((BitVec.ofNat 32 y) &&& (31#32)).toNat = (BitVec.ofNat 32 (y % 32)).toNat
    simp only [BitVec.toNat_and, BitVec.toNat_ofNat]
    have h1 : (31 : Nat) % 2 ^ 32 = 2 ^ 5 - 1 := by decide
    rw [h1, Nat.and_two_pow_sub_one_eq_mod]
    omega
  rw [e31]
  show Int32.ofNat ((x <<< (y % 32)) % 4294967296) = _
  rw [so_im]
  apply Int32.toBitVec_inj.mp
  apply BitVec.eq_of_toNat_eq
  have hy : y % 32 < 32 := Nat.mod_lt _ (by decide)
  have hs : ((Int32.ofNat (y % 32)).toBitVec.smod 32).toNat = y % 32 := by
    have : ∀ k, k < 32 → ((Int32.ofNat k).toBitVec.smod 32).toNat = k := by decide +kernel
    exact this _ hy
  rw [pk_shl (Int32.ofNat x) (Int32.ofNat (y % 32)) (y % 32) hs, so_bv, so_bv]
  simp only [BitVec.toNat_ofNat, Nat.shiftLeft_eq]
  rw [Nat.mod_mul_mod]
theorem so_ushrI (x y : Nat) : Int32.ofNat (so_ushr x y) = ((Int32.ofNat x).toUInt32 >>> ((Int32.ofNat y).toUInt32 &&& Int32.toUInt32 31)).toInt32 := by
  apply Int32.toBitVec_inj.mp
  apply BitVec.eq_of_toNat_eq
  have hs : (((Int32.ofNat y).toUInt32 &&& Int32.toUInt32 31).toBitVec % 32).toNat = y % 32 := by
    show (((BitVec.ofNat 32 y) &&& (31#32)) % 32#32).toNat = y % 32
    simp only [BitVec.toNat_umod, BitVec.toNat_and, BitVec.toNat_ofNat]
    have h1 : (31 : Nat) % 2 ^ 32 = 2 ^ 5 - 1 := by decide
    rw [h1, Nat.and_two_pow_sub_one_eq_mod]
    have h2 : (32 : Nat) % 2 ^ 32 = 32 := by decide
    have h3 : (2 : Nat) ^ 5 = 32 := by decide
    have h4 : (2 : Nat) ^ 32 = 4294967296 := by decide
    rw [h2, h3, h4]
    omega
  rw [pk_ushr (Int32.ofNat x) (Int32.ofNat y) (y % 32) hs, so_bv, so_bv]
  show (BitVec.ofNat 32 ((x % 4294967296) >>> (y % 32))).toNat = _
  simp only [BitVec.toNat_ofNat, Nat.shiftRight_eq_div_pow]
  have : x % 4294967296 / 2 ^ (y % 32) < 4294967296 := Nat.lt_of_le_of_lt (Nat.div_le_self _ _) (Nat.mod_lt _ (by decide))
  have h4 : (2 : Nat) ^ 32 = 4294967296 := by decide
  rw [h4]
  exact Nat.mod_eq_of_lt this
/-- which instruction does which arithmetic -/
def so_ck32 (i : Instr) (o len : Nat) : Bool := len == 1 && match i with
  | .iadd => o == 32
  | .isub => o == 33
  | .imul => o == 34
  | .iand => o == 35
  | .ixor => o == 36
  | .ishl => o == 37
  | .iushr => o == 39
  | _ => false
noncomputable def so_af (o : Nat) : Nat → Nat → Nat := so_br o 35 (so_br o 33 so_add (so_br o 34 so_sub so_mul)) (so_br o 37 (so_br o 36 Nat.land Nat.xor) (so_br o 38 so_shl so_ushr))
theorem sw_arith {o : Nat} (hx : p.tables.exec = Jvm.exec) (hb : c.code = cc) (hk : so_ck32 i o len = true) (hd : decode cc pc = .ok (i, len)) (ha : so_int a = true) (hb' : so_int b = true)
    (kk : W p l e R s m args below meth c H locs cells slots Q (F0 m (pc + len) ls (so_ms f (4 * so_af o (a / 4) (b / 4) :: st)))) : W p l e R s m args below meth c H locs cells slots Q (F0 m pc ls (so_ms f (b :: a :: st))) := by
  have kk : W p l e R s m args below meth c H locs cells slots Q (F0 m (pc + len) ls (so_vl f (4 * so_af o (a / 4) (b / 4)) :: so_ms f st)) := kk
  show W p l e R s m args below meth c H locs cells slots Q (F0 m pc ls (so_vl f b :: so_vl f a :: so_ms f st))
  rw [so_vl_4] at kk
  rw [so_vl_int ha, so_vl_int hb']
  unfold so_ck32 at hk
  rw [Bool.and_eq_true, beq_iff_eq] at hk
  obtain ⟨rfl, hk⟩ := hk
  split at hk
  · rw [beq_iff_eq] at hk; subst hk
    rw [show so_af 32 = so_add from rfl, so_ia] at kk
    exact lv_iadd hx hb hd kk
  · rw [beq_iff_eq] at hk; subst hk
    rw [show so_af 33 = so_sub from rfl, so_is] at kk
    exact lv_isub hx hb hd kk
  · rw [beq_iff_eq] at hk; subst hk
    rw [show so_af 34 = so_mul from rfl, so_imu] at kk
    exact lv_imul hx hb hd kk
  · rw [beq_iff_eq] at hk; subst hk
    rw [show so_af 35 = Nat.land from rfl, so_in] at kk
    exact lv_iand hx hb hd kk
  · rw [beq_iff_eq] at hk; subst hk
    rw [show so_af 36 = Nat.xor from rfl, so_ix] at kk
    exact lv_ixor hx hb hd kk
  · rw [beq_iff_eq] at hk; subst hk
    rw [show so_af 37 = so_shl from rfl, so_shlI] at kk
    exact lv_ishl hx hb hd kk
  · rw [beq_iff_eq] at hk; subst hk
    rw [show so_af 39 = so_ushr from rfl] at kk
    exact lv_iushr hx hb hd (so_ushrI _ _).symm kk
  · cases hk
/-- which comparison: its number, its target -/
def so_ckc (d : ClassFile.Cond) (x : Nat) : Bool := match d with
  | .eq => x == 0
  | .ne => x == 1
  | .lt => x == 2
  | .ge => x == 3
  | .gt => x == 4
  | .le => x == 5
def so_ck3 (i : Instr) (pc x y len : Nat) : Bool := match i with
  | .ifCond d off => len == 3 && so_ckc d x && decide ((pc : Int) + off = (y : Int))
  | _ => false
def so_ck4 (i : Instr) (pc x y len : Nat) : Bool := match i with
  | .if_icmp d off => len == 3 && so_ckc d x && decide ((pc : Int) + off = (y : Int))
  | _ => false
theorem so_cnd_0 (a b : Nat) : so_cnd 0 a b = true ↔ Int32.ofNat a = Int32.ofNat b := so_eqi a b
theorem so_cnd_1 (a b : Nat) : so_cnd 1 a b = true ↔ ¬ Int32.ofNat a = Int32.ofNat b := by
  rw [← so_eqi]
  show (!(Nat.beq (so_sg a) (so_sg b))) = true ↔ _
  cases Nat.beq (so_sg a) (so_sg b) <;> simp
theorem so_cnd_2 (a b : Nat) : so_cnd 2 a b = true ↔ Int32.ofNat a < Int32.ofNat b := so_lti a b
theorem so_cnd_3 (a b : Nat) : so_cnd 3 a b = true ↔ Int32.ofNat b ≤ Int32.ofNat a := by
  rw [← so_ltn]
  show (!(so_lt a b)) = true ↔ _
  cases so_lt a b <;> simp
theorem so_cnd_4 (a b : Nat) : so_cnd 4 a b = true ↔ Int32.ofNat b < Int32.ofNat a := so_lti b a
theorem so_cnd_5 (a b : Nat) : so_cnd 5 a b = true ↔ Int32.ofNat a ≤ Int32.ofNat b := by
  rw [← so_ltn]
  show (!(so_lt b a)) = true ↔ _
  cases so_lt b a <;> simp
theorem sw_icmp (hx : p.tables.exec = Jvm.exec) (hb : c.code = cc) (hk : so_ck4 i pc x y len = true) (hd : decode cc pc = .ok (i, len)) (ha : so_int a = true) (hb' : so_int b = true)
    (kt : so_cnd x (a / 4) (b / 4) = true → W p l e R s m args below meth c H locs cells slots Q (F0 m y ls (so_ms f st))) (kf : ¬ so_cnd x (a / 4) (b / 4) = true → W p l e R s m args below meth c H locs cells slots Q (F0 m (pc + len) ls (so_ms f st))) : W p l e R s m args below meth c H locs cells slots Q (F0 m pc ls (so_ms f (b :: a :: st))) := by
  show W p l e R s m args below meth c H locs cells slots Q (F0 m pc ls (so_vl f b :: so_vl f a :: so_ms f st))
  rw [so_vl_int ha, so_vl_int hb']
  unfold so_ck4 at hk
  split at hk
  · next d off =>
    simp only [Bool.and_eq_true, beq_iff_eq, decide_eq_true_eq] at hk
    obtain ⟨⟨rfl, h1⟩, h2⟩ := hk
    cases d <;> (unfold so_ckc at h1; dsimp only at h1; rw [beq_iff_eq] at h1; subst h1)
    · exact lv_icmp_eq hx hb hd h2 (fun q => kt ((so_cnd_0 _ _).mpr q)) (fun q => kf (fun z => q ((so_cnd_0 _ _).mp z)))
    · exact lv_icmp_ne hx hb hd h2 (fun q => kt ((so_cnd_1 _ _).mpr q)) (fun q => kf (fun z => (so_cnd_1 _ _).mp z q))
    · exact lv_icmp_lt hx hb hd h2 (fun q => kt ((so_cnd_2 _ _).mpr q)) (fun q => kf (fun z => q ((so_cnd_2 _ _).mp z)))
    · exact lv_icmp_ge hx hb hd h2 (fun q => kt ((so_cnd_3 _ _).mpr q)) (fun q => kf (fun z => q ((so_cnd_3 _ _).mp z)))
    · exact lv_icmp_gt hx hb hd h2 (fun q => kt ((so_cnd_4 _ _).mpr q)) (fun q => kf (fun z => q ((so_cnd_4 _ _).mp z)))
    · exact lv_icmp_le hx hb hd h2 (fun q => kt ((so_cnd_5 _ _).mpr q)) (fun q => kf (fun z => q ((so_cnd_5 _ _).mp z)))
  · cases hk
theorem sw_if (hx : p.tables.exec = Jvm.exec) (hb : c.code = cc) (hk : so_ck3 i pc x y len = true) (hd : decode cc pc = .ok (i, len)) (ha : so_int a = true)
    (kt : so_cnd x (a / 4) 0 = true → W p l e R s m args below meth c H locs cells slots Q (F0 m y ls (so_ms f st))) (kf : ¬ so_cnd x (a / 4) 0 = true → W p l e R s m args below meth c H locs cells slots Q (F0 m (pc + len) ls (so_ms f st))) : W p l e R s m args below meth c H locs cells slots Q (F0 m pc ls (so_ms f (a :: st))) := by
  show W p l e R s m args below meth c H locs cells slots Q (F0 m pc ls (so_vl f a :: so_ms f st))
  rw [so_vl_int ha]
  have e0 : Int32.ofNat 0 = 0 := rfl
  unfold so_ck3 at hk
  split at hk
  · next d off =>
    simp only [Bool.and_eq_true, beq_iff_eq, decide_eq_true_eq] at hk
    obtain ⟨⟨rfl, h1⟩, h2⟩ := hk
    cases d <;> (unfold so_ckc at h1; dsimp only at h1; rw [beq_iff_eq] at h1; subst h1)
    · exact lv_if_eq hx hb hd h2 (fun q => kt ((so_cnd_0 _ _).mpr q)) (fun q => kf (fun z => q ((so_cnd_0 _ _).mp z)))
    · exact lv_if_ne hx hb hd h2 (fun q => kt ((so_cnd_1 _ _).mpr q)) (fun q => kf (fun z => (so_cnd_1 _ _).mp z q))
    · exact lv_if_lt hx hb hd h2 (fun q => kt ((so_cnd_2 _ _).mpr q)) (fun q => kf (fun z => q ((so_cnd_2 _ _).mp z)))
    · exact lv_if_ge hx hb hd h2 (fun q => kt ((so_cnd_3 _ _).mpr q)) (fun q => kf (fun z => q ((so_cnd_3 _ _).mp z)))
    · exact lv_if_gt hx hb hd h2 (fun q => kt ((so_cnd_4 _ _).mpr q)) (fun q => kf (fun z => q ((so_cnd_4 _ _).mp z)))
    · exact lv_if_le hx hb hd h2 (fun q => kt ((so_cnd_5 _ _).mpr q)) (fun q => kf (fun z => q ((so_cnd_5 _ _).mp z)))
  · cases hk
def so_ck5 (i : Instr) (pc y : Nat) : Bool := match i with
  | .goto off => decide ((pc : Int) + off = (y : Int))
  | _ => false
theorem sw_goto (hx : p.tables.exec = Jvm.exec) (hb : c.code = cc) (hk : so_ck5 i pc y = true) (hl3 : len = 3) (hd : decode cc pc = .ok (i, len))
    (kk : W p l e R s m args below meth c H locs cells slots Q (F0 m y ls (so_ms f st))) : W p l e R s m args below meth c H locs cells slots Q (F0 m pc ls (so_ms f st)) := by
  subst hl3
  unfold so_ck5 at hk
  split at hk
  · exact lv_goto hx hb hd (of_decide_eq_true hk) kk
  · cases hk
theorem sw_dup (hx : p.tables.exec = Jvm.exec) (hb : c.code = cc) (hd : decode cc pc = .ok (.dup, 1)) (hv : so_cat v = true)
    (kk : W p l e R s m args below meth c H locs cells slots Q (F0 m (pc + 1) ls (so_ms f (v :: v :: st)))) : W p l e R s m args below meth c H locs cells slots Q (F0 m pc ls (so_ms f (v :: st))) :=
  lv_dup hx hb hd (so_cat_1 hv) kk
theorem sw_pop (hx : p.tables.exec = Jvm.exec) (hb : c.code = cc) (hd : decode cc pc = .ok (.pop, 1)) (hv : so_cat v = true)
    (kk : W p l e R s m args below meth c H locs cells slots Q (F0 m (pc + 1) ls (so_ms f st))) : W p l e R s m args below meth c H locs cells slots Q (F0 m pc ls (so_ms f (v :: st))) :=
  lv_pop hx hb hd (so_cat_1 hv) kk
def so_ck18 (i : Instr) (x y len nL : Nat) : Bool := match i with
  | .iinc j d => j == x && len == 3 && Nat.blt x nL && decide (Int32.ofInt d = Int32.ofNat y)
  | _ => false
theorem sw_iinc (hx : p.tables.exec = Jvm.exec) (hb : c.code = cc) (hk : so_ck18 i x y len nL = true) (hd : decode cc pc = .ok (i, len)) (hl : so_lh f ls nL lv) (hv : so_find lv x = some v) (ht : so_int v = true)
    (kk : ∀ ls', so_lh f ls' nL (so_put lv x (4 * so_add (v / 4) y)) → W p l e R s m args below meth c H locs cells slots Q (F0 m (pc + len) ls' (so_ms f st))) : W p l e R s m args below meth c H locs cells slots Q (F0 m pc ls (so_ms f st)) := by
  unfold so_ck18 at hk
  split at hk
  · simp only [Bool.and_eq_true, beq_iff_eq, decide_eq_true_eq] at hk
    obtain ⟨⟨⟨rfl, rfl⟩, hn⟩, h2⟩ := hk
    have hn := so_blt.mp hn
    have hm := so_lm_mem (f := f) hv
    rw [so_vl_int ht] at hm
    obtain ⟨k, hk⟩ := List.getElem?_of_mem hm
    have hc : so_cat (4 * so_add (v / 4) y) = true := so_int_cat (by show Nat.beq ((4 * so_add (v / 4) y) % 4) 0 = true; rw [Nat.mul_mod_right]; rfl)
    have hp := fun ls' h' => kk ls' (so_lh.put (ls' := ls') hl hc h')
    rw [so_vl_4, so_ia] at hp
    exact lv_iinc hx hb hd hl.has hk (by rw [h2]) hn rfl hp
  · cases hk
end SMS2
