/-! ===== rows: loads, stores, lengths; longs; the switch ===== -/
section SMV
variable {p : Program} {l : Launch} {e : Env} {R : Room} {s : State} {m : MethodId} {args : Array Value} {below : List Frame} {meth : Method} {c : Code} {H : Heap} {locs : List Loc} {cells slots : Nat} {Q : State → Prop}
variable {cc : ByteArray} {pc : Nat} {ls : Array Slot} {f : Nat → Nat} {lv : so_L} {st : List Nat} {nL : Nat} {i : Instr} {len x y v a b j r : Nat} {own : String} {Ts : List Cond}
variable {D : va_G} {cl : List vw_C} {base : Nat} {scr : List Nat} {h : so_H}
theorem so_cl {k n : Nat} (hk : k < n) (hn : n < 2 ^ 31) : ¬ (Int32.ofNat k < 0 ∨ n ≤ (Int32.ofNat k).toNatClampNeg) := nI_in hk hn
theorem so_clN {k n : Nat} (hk : k < n) (hn : n < 2 ^ 31) : (Int32.ofNat k).toNatClampNeg = k := nI_clamp (by omega)
theorem sw_iald (hx : p.tables.exec = Jvm.exec) (hb : c.code = cc) (hd : decode cc pc = .ok (.iaload, 1)) (hr : so_rel D cl base scr f h s H) (hrf : so_ref r = true) (hj : so_int j = true) {n N : Nat} (hg : so_get h (r / 4) = some (1003, n, N)) (hlt : j / 4 < n)
    (kk : W p l e R s m args below meth c H locs cells slots Q (F0 m (pc + 1) ls (so_ms f (4 * so_ln 32 N (j / 4) :: st)))) : W p l e R s m args below meth c H locs cells slots Q (F0 m pc ls (so_ms f (j :: r :: st))) := by
  show W p l e R s m args below meth c H locs cells slots Q (F0 m pc ls (so_vl f j :: so_vl f r :: so_ms f st))
  have kk : W p l e R s m args below meth c H locs cells slots Q (F0 m (pc + 1) ls (so_vl f (4 * so_ln 32 N (j / 4)) :: so_ms f st)) := kk
  rw [so_vl_ref hrf, so_vl_int hj]
  rw [so_vl_4] at kk
  obtain ⟨hob, -, -⟩ := hr.2.1 _ _ (so_at_rel hr hg)
  obtain ⟨cell, h1, h2, h3, h4, h5, h6⟩ := hob.2.1 rfl
  have h4 : cell.slots.size = n := h4
  have h5 : n < 2 ^ 31 := h5
  refine W.iald (v := .int (Int32.ofNat (so_ln 32 N (j / 4)))) hx hb h1 h2 (by rw [h3]; exact fun z => by cases z) (by rw [h4]; exact so_cl hlt h5) ?_ rfl rfl hd kk
  rw [so_clN hlt h5]
  exact h6 _ hlt
theorem sw_sld (hx : p.tables.exec = Jvm.exec) (hb : c.code = cc) (hd : decode cc pc = .ok (.iaload, 1)) (hr : so_rel D cl base scr f h s H) (hj : so_int j = true) (hs31 : scr.length < 2 ^ 31) {w : Nat} (hg : so_nth scr (j / 4) = some w)
    (kk : W p l e R s m args below meth c H locs cells slots Q (F0 m (pc + 1) ls (so_ms f (4 * w :: st)))) : W p l e R s m args below meth c H locs cells slots Q (F0 m pc ls (so_ms f (j :: 1 :: st))) := by
  show W p l e R s m args below meth c H locs cells slots Q (F0 m pc ls (so_vl f j :: so_vl f 1 :: so_ms f st))
  have kk : W p l e R s m args below meth c H locs cells slots Q (F0 m (pc + 1) ls (so_vl f (4 * w) :: so_ms f st)) := kk
  rw [so_vl_ref (v := 1) rfl, so_vl_int hj]
  rw [so_vl_4] at kk
  rw [so_nth_eq] at hg
  have hlt : j / 4 < scr.length := (List.getElem?_eq_some_iff.mp hg).1
  obtain ⟨cell, h1, h2, h3, h4, h5⟩ := hr.2.2.2.2.1
  refine W.iald (v := .int (Int32.ofNat w)) hx hb h1 h2 h3 (by rw [h4]; exact so_cl hlt hs31) ?_ rfl rfl hd kk
  rw [so_clN hlt hs31, h5 _ hlt]
  simp [hg]
theorem sw_lald (hx : p.tables.exec = Jvm.exec) (hb : c.code = cc) (hd : decode cc pc = .ok (.laload, 1)) (hr : so_rel D cl base scr f h s H) (hrf : so_ref r = true) (hj : so_int j = true) {n N : Nat} (hg : so_get h (r / 4) = some (1000, n, N)) (hlt : j / 4 < n)
    (kk : W p l e R s m args below meth c H locs cells slots Q (F0 m (pc + 1) ls (so_ms f (so_ln 72 N (j / 4) :: st)))) : W p l e R s m args below meth c H locs cells slots Q (F0 m pc ls (so_ms f (j :: r :: st))) := by
  show W p l e R s m args below meth c H locs cells slots Q (F0 m pc ls (so_vl f j :: so_vl f r :: so_ms f st))
  rw [so_vl_ref hrf, so_vl_int hj]
  obtain ⟨hob, -, -⟩ := hr.2.1 _ _ (so_at_rel hr hg)
  obtain ⟨cell, h1, h2, h3, h4, h5, h6⟩ := hob.2.2 rfl
  have h4 : cell.slots.size = n := h4
  have h5 : n < 2 ^ 31 := h5
  refine W.lald (v := so_vl f (so_ln 72 N (j / 4))) hx hb h1 h2 (by rw [h3]; exact fun z => by cases z) (by rw [h4]; exact so_cl hlt h5) ?_ rfl rfl hd kk
  rw [so_clN hlt h5]
  exact (h6 _ hlt).2
theorem sw_iast (hx : p.tables.exec = Jvm.exec) (hb : c.code = cc) (hd : decode cc pc = .ok (.iastore, 1)) (hr : so_rel D cl base scr f h s H) (hrf : so_ref r = true) (hj : so_int j = true) (hv : so_int v = true) {n N : Nat} (hg : so_get h (r / 4) = some (1003, n, N)) (hlt : j / 4 < n)
    (kk : ∀ (H1 : Heap) (k : Nat), so_rel D cl base scr f (so_upd h (r / 4) (1003, n, so_up 32 N (j / 4) (v / 4 % 4294967296))) s H1 → base ≤ f (r / 4) → W p l e R s m args below meth c H1 (locs ++ [⟨f (r / 4), k⟩]) cells slots Q (F0 m (pc + 1) ls (so_ms f st))) : W p l e R s m args below meth c H locs cells slots Q (F0 m pc ls (so_ms f (v :: j :: r :: st))) := by
  show W p l e R s m args below meth c H locs cells slots Q (F0 m pc ls (so_vl f v :: so_vl f j :: so_vl f r :: so_ms f st))
  rw [so_vl_ref hrf, so_vl_int hj, so_vl_int hv]
  have hfl := so_at_rel hr hg
  obtain ⟨hob, -, -⟩ := hr.2.1 _ _ hfl
  obtain ⟨cell, h1, h2, h3, h4, h5, h6⟩ := hob.2.1 rfl
  have h4 : cell.slots.size = n := h4
  have h5 : n < 2 ^ 31 := h5
  refine W.iast hx hb h1 h2 (by rw [h3]; exact fun z => by cases z) (by rw [h4]; exact so_cl hlt h5) rfl rfl hd (fun H1 g1 g2 g3 => ?_)
  rw [so_clN hlt h5] at g1 ⊢
  have hob1 : so_ob D cl s f (1003, n, so_up 32 N (j / 4) (v / 4 % 4294967296)) (f (r / 4)) H1 := by
    refine ⟨fun z => by have : 1003 < 999 := z; omega, fun _ => ⟨_, g1, ?_, h3, ?_, h5, fun k hk => ?_⟩, (fun z => by cases z)⟩
    · exact h2
    · show (cell.setSlot (j / 4) (.int (Int32.ofNat (v / 4)))).slots.size = n
      rw [← h4]; simp [Cell.setSlot]
    · show (cell.setSlot (j / 4) (.int (Int32.ofNat (v / 4)))).slots[k]? = some (.int (Int32.ofNat (so_ln 32 (so_up 32 N (j / 4) (v / 4 % 4294967296)) k)))
      rw [so_ln_up (by decide) (Nat.mod_lt _ (by decide))]
      by_cases hkj : k = j / 4
      · subst hkj
        rw [if_pos rfl, so_im, Cell.slots_setSlot_self _ (by rw [h4]; exact hlt)]
      · rw [if_neg hkj, slot_ne _ _ (Ne.symm hkj)]
        exact h6 k hk
  obtain ⟨hr1, hbase⟩ := hr.set hfl (show (1003 : Nat) ≠ 1002 by decide) (show (1003 : Nat) ≠ 999 by decide) g2 g3 hob1
  exact kk _ _ hr1 hbase
theorem sw_last (hx : p.tables.exec = Jvm.exec) (hb : c.code = cc) (hd : decode cc pc = .ok (.lastore, 1)) (hr : so_rel D cl base scr f h s H) (hrf : so_ref r = true) (hj : so_int j = true) (hv : v % 4 = 3) (hv2 : v < 2 ^ 72) {n N : Nat} (hg : so_get h (r / 4) = some (1000, n, N)) (hlt : j / 4 < n)
    (kk : ∀ (H1 : Heap) (k : Nat), so_rel D cl base scr f (so_upd h (r / 4) (1000, n, so_up 72 N (j / 4) v)) s H1 → base ≤ f (r / 4) → W p l e R s m args below meth c H1 (locs ++ [⟨f (r / 4), k⟩]) cells slots Q (F0 m (pc + 1) ls (so_ms f st))) : W p l e R s m args below meth c H locs cells slots Q (F0 m pc ls (so_ms f (v :: j :: r :: st))) := by
  show W p l e R s m args below meth c H locs cells slots Q (F0 m pc ls (so_vl f v :: so_vl f j :: so_vl f r :: so_ms f st))
  rw [so_vl_ref hrf, so_vl_int hj, so_vl_long hv]
  have hfl := so_at_rel hr hg
  obtain ⟨hob, -, -⟩ := hr.2.1 _ _ hfl
  obtain ⟨cell, h1, h2, h3, h4, h5, h6⟩ := hob.2.2 rfl
  have h4 : cell.slots.size = n := h4
  have h5 : n < 2 ^ 31 := h5
  refine W.last hx hb h1 h2 (by rw [h3]; exact fun z => by cases z) (by rw [h4]; exact so_cl hlt h5) rfl rfl hd (fun H1 g1 g2 g3 => ?_)
  rw [so_clN hlt h5] at g1 ⊢
  have hob1 : so_ob D cl s f (1000, n, so_up 72 N (j / 4) v) (f (r / 4)) H1 := by
    refine ⟨fun z => by have : 1000 < 999 := z; omega, (fun z => by cases z), fun _ => ⟨_, g1, ?_, h3, ?_, h5, fun k hk => ?_⟩⟩
    · exact h2
    · show (cell.setSlot (j / 4) (.long (Int64.ofNat (v / 4)))).slots.size = n
      rw [← h4]; simp [Cell.setSlot]
    · show so_ln 72 (so_up 72 N (j / 4) v) k % 4 = 3 ∧ (cell.setSlot (j / 4) (.long (Int64.ofNat (v / 4)))).slots[k]? = some (so_vl f (so_ln 72 (so_up 72 N (j / 4) v) k))
      rw [so_ln_up (by decide) hv2]
      by_cases hkj : k = j / 4
      · subst hkj
        rw [if_pos rfl, Cell.slots_setSlot_self _ (by rw [h4]; exact hlt), so_vl_long hv]
        exact ⟨hv, rfl⟩
      · rw [if_neg hkj, slot_ne _ _ (Ne.symm hkj)]
        exact h6 k hk
  obtain ⟨hr1, hbase⟩ := hr.set hfl (show (1000 : Nat) ≠ 1002 by decide) (show (1000 : Nat) ≠ 999 by decide) g2 g3 hob1
  exact kk _ _ hr1 hbase
theorem sw_alen (hx : p.tables.exec = Jvm.exec) (hb : c.code = cc) (hd : decode cc pc = .ok (.arraylength, 1)) (hr : so_rel D cl base scr f h s H) (hrf : so_ref r = true) {n N : Nat} (hg : so_get h (r / 4) = some (1003, n, N))
    (kk : W p l e R s m args below meth c H locs cells slots Q (F0 m (pc + 1) ls (so_ms f (4 * n :: st)))) : W p l e R s m args below meth c H locs cells slots Q (F0 m pc ls (so_ms f (r :: st))) := by
  show W p l e R s m args below meth c H locs cells slots Q (F0 m pc ls (so_vl f r :: so_ms f st))
  have kk : W p l e R s m args below meth c H locs cells slots Q (F0 m (pc + 1) ls (so_vl f (4 * n) :: so_ms f st)) := kk
  rw [so_vl_ref hrf]
  rw [so_vl_4] at kk
  obtain ⟨hob, -, -⟩ := hr.2.1 _ _ (so_at_rel hr hg)
  obtain ⟨cell, h1, h2, h3, h4, h5, h6⟩ := hob.2.1 rfl
  have h4 : cell.slots.size = n := h4
  exact W.alen (n := Int32.ofNat n) hx hb h1 h2 (by rw [h4] <;> rfl) rfl rfl hd kk
theorem sw_slen (hx : p.tables.exec = Jvm.exec) (hb : c.code = cc) (hd : decode cc pc = .ok (.arraylength, 1)) (hr : so_rel D cl base scr f h s H)
    (kk : W p l e R s m args below meth c H locs cells slots Q (F0 m (pc + 1) ls (so_ms f (4 * so_len scr :: st)))) : W p l e R s m args below meth c H locs cells slots Q (F0 m pc ls (so_ms f (1 :: st))) := by
  show W p l e R s m args below meth c H locs cells slots Q (F0 m pc ls (so_vl f 1 :: so_ms f st))
  have kk : W p l e R s m args below meth c H locs cells slots Q (F0 m (pc + 1) ls (so_vl f (4 * so_len scr) :: so_ms f st)) := kk
  rw [so_vl_ref (v := 1) rfl]
  rw [so_vl_4, so_len_eq] at kk
  obtain ⟨cell, h1, h2, h3, h4, h5⟩ := hr.2.2.2.2.1
  exact W.alen (n := Int32.ofNat scr.length) hx hb h1 h2 (by rw [h4] <;> rfl) rfl rfl hd kk
theorem sw_i2l (hx : p.tables.exec = Jvm.exec) (hb : c.code = cc) (hd : decode cc pc = .ok (.i2l, 1)) (hv : so_int v = true)
    (kk : W p l e R s m args below meth c H locs cells slots Q (F0 m (pc + 1) ls (so_ms f ((4 * (so_if (so_neg (v / 4 % 4294967296)) (v / 4 % 4294967296 + 18446744069414584320) (v / 4 % 4294967296)) + 3) :: st)))) : W p l e R s m args below meth c H locs cells slots Q (F0 m pc ls (so_ms f (v :: st))) := by
  show W p l e R s m args below meth c H locs cells slots Q (F0 m pc ls (so_vl f v :: so_ms f st))
  have kk : W p l e R s m args below meth c H locs cells slots Q (F0 m (pc + 1) ls (so_vl f (4 * (so_if (so_neg (v / 4 % 4294967296)) (v / 4 % 4294967296 + 18446744069414584320) (v / 4 % 4294967296)) + 3) :: so_ms f st)) := kk
  rw [so_vl_int hv]
  rw [so_vl_43] at kk
  refine lv_i2l hx hb hd ?_ kk
  apply Int64.toInt_inj.mp
  rw [Int32.toInt_toInt64, so_sgt]
  have hlt : v / 4 % 4294967296 < 4294967296 := Nat.mod_lt _ (by decide)
  have hsg : so_sg (v / 4) = (v / 4 % 4294967296 + 2147483648) % 4294967296 := by
    show (v / 4 + 2147483648) % 4294967296 = _
    omega
  generalize v / 4 % 4294967296 = w at hlt hsg ⊢
  rw [hsg]
  cases hn : so_neg w with
  | true =>
    have hw : 2147483648 ≤ w := Nat.le_of_ble_eq_true hn
    show _ = (Int64.ofNat (w + 18446744069414584320)).toInt
    rw [show (Int64.ofNat (w + 18446744069414584320)).toInt = (BitVec.ofNat 64 (w + 18446744069414584320)).toInt from rfl, BitVec.toInt_eq_toNat_cond]
    simp only [BitVec.toNat_ofNat]
    split <;> omega
  | false =>
    have hw : w < 2147483648 := by
      rcases Nat.lt_or_ge w 2147483648 with z | z
      · exact z
      · have : so_neg w = true := Nat.ble_eq_true_of_le z
        rw [this] at hn; cases hn
    show _ = (Int64.ofNat w).toInt
    rw [show (Int64.ofNat w).toInt = (BitVec.ofNat 64 w).toInt from rfl, BitVec.toInt_eq_toNat_cond]
    simp only [BitVec.toNat_ofNat]
    split <;> omega
end SMV
