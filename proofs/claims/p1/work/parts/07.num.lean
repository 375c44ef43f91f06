/-! ===== the small machine's numbers and the machine's ===== -/
section SMN
/-- a value of the small machine; f says where its things lie -/
def so_vl (f : Nat → Nat) (v : Nat) : Value := if v % 4 = 0 then .int (Int32.ofNat (v / 4)) else if v % 4 = 1 then .ref (f (v / 4)) else if v % 4 = 2 then .null else .long (Int64.ofNat (v / 4))
theorem so_vl_int {f : Nat → Nat} {v : Nat} (h : so_int v = true) : so_vl f v = .int (Int32.ofNat (v / 4)) := by
  have h1 : v % 4 = 0 := Nat.eq_of_beq_eq_true h
  simp [so_vl, h1]
theorem so_vl_ref {f : Nat → Nat} {v : Nat} (h : so_ref v = true) : so_vl f v = .ref (f (v / 4)) := by
  have h1 : v % 4 = 1 := Nat.eq_of_beq_eq_true h
  simp [so_vl, h1]
theorem so_vl_long {f : Nat → Nat} {v : Nat} (h : v % 4 = 3) : so_vl f v = .long (Int64.ofNat (v / 4)) := by
  simp [so_vl, h]
theorem so_vl_4 {f : Nat → Nat} (n : Nat) : so_vl f (4 * n) = .int (Int32.ofNat n) := by
  have h1 : (4 * n) % 4 = 0 := by omega
  have h2 : (4 * n) / 4 = n := by omega
  simp [so_vl, h1, h2]
theorem so_vl_41 {f : Nat → Nat} (n : Nat) : so_vl f (4 * n + 1) = .ref (f n) := by
  have h1 : (4 * n + 1) % 4 = 1 := by omega
  have h2 : (4 * n + 1) / 4 = n := by omega
  simp [so_vl, h1, h2]
theorem so_vl_43 {f : Nat → Nat} (n : Nat) : so_vl f (4 * n + 3) = .long (Int64.ofNat n) := by
  have h1 : (4 * n + 3) % 4 = 3 := by omega
  have h2 : (4 * n + 3) / 4 = n := by omega
  simp [so_vl, h1, h2]
/-- things that are there keep their places -/
theorem so_vl_ext {f g : Nat → Nat} {n v : Nat} (hfg : ∀ i, i < n → g i = f i) (h : so_okv n v = true) : so_vl g v = so_vl f v := by
  by_cases h1 : v % 4 = 1
  · have h2 : so_ref v = true := by unfold so_ref; exact (by rw [show Nat.mod v 4 = 1 from h1]; rfl)
    simp only [so_okv, h2, Bool.not_true, Bool.false_or] at h
    rw [so_vl_ref h2, so_vl_ref h2, hfg (v / 4) (so_blt.mp h)]
  · simp only [so_vl, h1, if_false]
theorem so_bv (n : Nat) : (Int32.ofNat n).toBitVec = BitVec.ofNat 32 n := rfl
theorem so_im (n : Nat) : Int32.ofNat (n % 4294967296) = Int32.ofNat n := by
  apply Int32.toBitVec_inj.mp
  rw [so_bv, so_bv]
  apply BitVec.eq_of_toNat_eq
  simp
theorem so_ia (x y : Nat) : Int32.ofNat (so_add x y) = Int32.ofNat x + Int32.ofNat y := by
  show Int32.ofNat ((x + y) % 4294967296) = _
  rw [so_im, Int32.ofNat_add]
theorem so_imu (x y : Nat) : Int32.ofNat (so_mul x y) = Int32.ofNat x * Int32.ofNat y := by
  show Int32.ofNat ((x * y) % 4294967296) = _
  rw [so_im, Int32.ofNat_mul]
theorem so_is (x y : Nat) : Int32.ofNat (so_sub x y) = Int32.ofNat x - Int32.ofNat y := by
  show Int32.ofNat ((x + (4294967296 - y % 4294967296)) % 4294967296) = _
  rw [so_im]
  apply Int32.toBitVec_inj.mp
  rw [Int32.toBitVec_sub, so_bv, so_bv, so_bv]
  apply BitVec.eq_of_toNat_eq
  simp only [BitVec.toNat_ofNat, BitVec.toNat_sub]
  omega
theorem so_ix (x y : Nat) : Int32.ofNat (Nat.xor x y) = Int32.ofNat x ^^^ Int32.ofNat y := by
  apply Int32.toBitVec_inj.mp
  rw [Int32.toBitVec_xor, so_bv, so_bv, so_bv]
  apply BitVec.eq_of_toNat_eq
  show (BitVec.ofNat 32 (x ^^^ y)).toNat = _
  simp only [BitVec.toNat_ofNat, BitVec.toNat_xor]
  exact Nat.xor_mod_two_pow
theorem so_in (x y : Nat) : Int32.ofNat (Nat.land x y) = Int32.ofNat x &&& Int32.ofNat y := by
  apply Int32.toBitVec_inj.mp
  rw [Int32.toBitVec_and, so_bv, so_bv, so_bv]
  apply BitVec.eq_of_toNat_eq
  show (BitVec.ofNat 32 (x &&& y)).toNat = _
  simp only [BitVec.toNat_ofNat, BitVec.toNat_and]
  exact Nat.and_mod_two_pow
theorem so_sgt (x : Nat) : (Int32.ofNat x).toInt = (so_sg x : Int) - 2147483648 := by
  show (BitVec.ofNat 32 x).toInt = (((x + 2147483648) % 4294967296 : Nat) : Int) - 2147483648
  rw [BitVec.toInt_eq_toNat_cond]
  simp only [BitVec.toNat_ofNat]
  split <;> omega
theorem so_lti (x y : Nat) : so_lt x y = true ↔ Int32.ofNat x < Int32.ofNat y := by
  show Nat.blt (so_sg x) (so_sg y) = true ↔ _
  rw [so_blt, Int32.lt_iff_toInt_lt, so_sgt, so_sgt]
  omega
theorem so_ltn (x y : Nat) : so_lt x y = false ↔ Int32.ofNat y ≤ Int32.ofNat x := by
  rw [Int32.le_iff_toInt_le, so_sgt, so_sgt]
  have h := so_lti x y
  rw [Int32.lt_iff_toInt_lt, so_sgt, so_sgt] at h
  cases hb : so_lt x y
  · rw [hb] at h
    simp only [true_iff]
    have : ¬ ((so_sg x : Int) - 2147483648 < (so_sg y : Int) - 2147483648) := fun z => by cases h.mpr z
    omega
  · rw [hb] at h
    have := h.mp rfl
    constructor
    · intro z; cases z
    · intro z; omega
theorem so_eqi (x y : Nat) : Nat.beq (so_sg x) (so_sg y) = true ↔ Int32.ofNat x = Int32.ofNat y := by
  rw [← Int32.toInt_inj, so_sgt, so_sgt]
  constructor
  · intro h; rw [so_beq_eq _ _ h]
  · intro h
    have : so_sg x = so_sg y := by omega
    rw [this]
    exact Nat.beq_refl _
end SMN
