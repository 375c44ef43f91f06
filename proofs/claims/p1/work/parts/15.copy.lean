/-! ===== a row's first ints into another ===== -/
section SMY
variable {p : Program} {l : Launch} {e : Env} {R : Room} {s : State} {m : MethodId} {args : Array Value} {below : List Frame} {meth : Method} {c : Code} {H : Heap} {locs : List Loc} {cells slots : Nat} {Q : State → Prop}
variable {cc : ByteArray} {pc : Nat} {ls : Array Slot} {f : Nat → Nat} {lv : so_L} {st : List Nat} {nL : Nat} {i : Instr} {len x y v a b j r : Nat} {own : String} {Ts : List Cond}
variable {D : va_G} {cl : List vw_C} {base : Nat} {scr : List Nat} {h : so_H}
theorem sw_copy {n na Na nb Nb : Nat} (hx : p.tables.exec = Jvm.exec) (hb : c.code = cc) (hown : s.vm.findClass own = some m.cls) (hts : ∀ w ∈ Ts, w.before args s = true) (hml : c.maxLocals = nL) (hl : so_lh f ls nL lv)
    (w1 : Cond.methodLink own j arraycopyName ∈ Ts) (w2 : Cond.native arraycopyName ∈ Ts) (w3 : Cond.static arraycopyName ∈ Ts) (w4 : Cond.initialized "java/lang/System" ∈ Ts) (hd : decode cc pc = .ok (.invokestatic j, 3))
    (hr : so_rel D cl base scr f h s H) (hn : so_int n = true) (hra : so_ref a = true) (hrb : so_ref b = true) (ha : so_get h (a / 4) = some (1003, na, Na)) (hbb : so_get h (b / 4) = some (1003, nb, Nb)) (hna : n / 4 ≤ na) (hnb : n / 4 ≤ nb)
    (hf1 : 1 ≤ R.frames) (hf2 : ((so_ms f st).map fun v => v.category).sum + (nativeFrameWords "java/lang/System" "arraycopy" 5 + 11) ≤ R.locals)
    (kk : ∀ (H1 : Heap) (locs1 : List Loc), so_rel D cl base scr f (so_upd h (b / 4) (1003, nb, so_cp Na Nb (32 * (n / 4)))) s H1 → (∀ q ∈ locs1, q ∈ locs ∨ base ≤ q.base) → W p l e R s m args below meth c H1 locs1 cells slots Q (F0 m (pc + 3) ls (so_ms f st))) : W p l e R s m args below meth c H locs cells slots Q (F0 m pc ls (so_ms f (n :: 0 :: b :: 0 :: a :: st))) := by
  have e0 : so_vl f 0 = .int 0 := rfl
  show W p l e R s m args below meth c H locs cells slots Q (F0 m pc ls (so_vl f n :: so_vl f 0 :: so_vl f b :: so_vl f 0 :: so_vl f a :: so_ms f st))
  rw [e0, so_vl_int hn, so_vl_ref hra, so_vl_ref hrb]
  have hfa := so_at_rel hr ha
  have hfb := so_at_rel hr hbb
  obtain ⟨hoa, -, -⟩ := hr.2.1 _ _ hfa
  obtain ⟨hob, hlt, -⟩ := hr.2.1 _ _ hfb
  obtain ⟨cs, g1, ⟨g2a, ks, g2b, sc, g2c⟩, g3, g4, g5, g6⟩ := hoa.2.1 rfl
  obtain ⟨cd, k1, k2, k3, k4, k5, k6⟩ := hob.2.1 rfl
  obtain ⟨k2a, kd, k2b, dc, k2c⟩ := id k2
  have g4 : cs.slots.size = na := g4
  have g5 : na < 2 ^ 31 := g5
  have k4 : cd.slots.size = nb := k4
  have k5 : nb < 2 ^ 31 := k5
  have hcl : (Int32.ofNat (n / 4)).toNatClampNeg = n / 4 := nI_clamp (by omega)
  have hti : (Int32.ofNat (n / 4)).toInt = ((n / 4 : Nat) : Int) := nI_toInt (by omega)
  have hneg : ¬ Int32.ofNat (n / 4) < 0 := nI_pos (by omega)
  intro T hT X
  obtain ⟨vm', X', step⟩ := X.arraycopy hx hown (hts _ w1) (hts _ w2) (hts _ w3) (hts _ w4) (src := f (a / 4)) (dst := f (b / 4)) (cs := cs) (cd := cd) (srcPos := 0) (destPos := 0) (n := Int32.ofNat (n / 4)) (by rw [hT]; exact g1) (by rw [hT]; exact k1)
    g2a k2a (by rw [g3]; exact fun z => by cases z) (by rw [k3]; exact fun z => by cases z) g2b k2b g2c k2c (by decide) (by decide) (by decide) hneg
    (by rw [hti, g4]; show ¬ (0 : Int) + _ > _; omega) (by rw [hti, k4]; show ¬ (0 : Int) + _ > _; omega)
    (fun vm₁ _ i hi => by
      rw [hcl] at hi
      have e1 : cs.slots.getD ((0 : Int32).toNatClampNeg + i) .null = .int (Int32.ofNat (so_ln 32 Na i)) := by
        rw [sb_cl0, Nat.zero_add, Array.getD_eq_getD_getElem?, g6 i (by show i < na; omega)]
        rfl
      rw [e1]
      exact ⟨rfl, trivial⟩)
    (g := F0 m pc ls (.int (Int32.ofNat (n / 4)) :: .int 0 :: .ref (f (b / 4)) :: .int 0 :: .ref (f (a / 4)) :: so_ms f st)) rfl (by rw [hml]; exact hl.1) (rest := so_ms f st) rfl (by rw [hb]; exact hd) hf1 (by show 2 * 0 + _ + _ ≤ _; omega)
  have ecp : copied cs cd 0 0 (Int32.ofNat (n / 4)) = cd.storeRun 0 (cs.stretch 0 (n / 4)) := by
    show cd.storeRun (0 : Int32).toNatClampNeg (cs.stretch (0 : Int32).toNatClampNeg (Int32.ofNat (n / 4)).toNatClampNeg) = _
    rw [hcl, sb_cl0]
  rw [ecp] at X' step
  have hheap : ((T.setVm vm').setCell (f (b / 4)) (cd.storeRun 0 (cs.stretch 0 (n / 4)))).heap = H.setIfInBounds (f (b / 4)) (cd.storeRun 0 (cs.stretch 0 (n / 4))) := by rw [← hT]; rfl
  have hne : ∀ z, z ≠ f (b / 4) → (H.setIfInBounds (f (b / 4)) (cd.storeRun 0 (cs.stretch 0 (n / 4))))[z]? = H[z]? := fun z hz => Array.getElem?_setIfInBounds_ne (Ne.symm hz)
  have hself : (H.setIfInBounds (f (b / 4)) (cd.storeRun 0 (cs.stretch 0 (n / 4))))[f (b / 4)]? = some (cd.storeRun 0 (cs.stretch 0 (n / 4))) := by rw [Array.getElem?_setIfInBounds_self_of_lt hlt]
  obtain ⟨q1, q2, q3⟩ : (cd.storeRun 0 (cs.stretch 0 (n / 4))).cls = cd.cls ∧ (cd.storeRun 0 (cs.stretch 0 (n / 4))).vm = cd.vm ∧ (cd.storeRun 0 (cs.stretch 0 (n / 4))).slots.size = cd.slots.size := by
    have := Cell.storeRun_facts cd 0 (cs.stretch 0 (n / 4))
    exact ⟨this.1, this.2.1, this.2.2.1⟩
  have hob1 : so_ob D cl s f (1003, nb, so_cp Na Nb (32 * (n / 4))) (f (b / 4)) (H.setIfInBounds (f (b / 4)) (cd.storeRun 0 (cs.stretch 0 (n / 4)))) := by
    refine ⟨fun z => absurd (show (1003 : Nat) < 999 from z) (by decide), fun _ => ⟨_, hself, ⟨by rw [q2]; exact k2a, kd, by rw [q1]; exact k2b, dc, k2c⟩, by rw [q2]; exact k3, by rw [q3]; exact k4, k5, fun t ht => ?_⟩, fun z => absurd (show (1003 : Nat) = 1000 from z) (by decide)⟩
    have ht : t < nb := ht
    show (cd.storeRun 0 (cs.stretch 0 (n / 4))).slots[t]? = some (.int (Int32.ofNat (so_ln 32 (so_cp Na Nb (32 * (n / 4))) t)))
    rw [Cell.storeRun_get _ _ _ _ (by rw [Cell.stretch_length]; omega), Cell.stretch_length, so_ln_cp]
    by_cases htn : t < n / 4
    · rw [if_pos ⟨Nat.zero_le _, by omega⟩, if_pos htn]
      show (cs.stretch 0 (n / 4))[t - 0]? = _
      have e2 : cs.slots.getD (0 + t) .null = .int (Int32.ofNat (so_ln 32 Na t)) := by
        rw [Nat.zero_add, Array.getD_eq_getD_getElem?, g6 t (by show t < na; omega)]
        rfl
      simp only [Cell.stretch, Nat.sub_zero, List.getElem?_map, List.getElem?_range htn, Option.map_some, e2]
    · rw [if_neg (by omega), if_neg htn]
      exact k6 t ht
  obtain ⟨hr1, hbase⟩ := hr.set hfb (show (1003 : Nat) ≠ 1002 by decide) (show (1003 : Nat) ≠ 999 by decide) (by simp) hne hob1
  obtain ⟨t, a1, b1⟩ := kk _ _ hr1 (fun q hq => by
    rcases List.mem_append.mp hq with z | z
    · exact Or.inl z
    · obtain ⟨w, -, hw⟩ := List.mem_map.mp z
      rw [← hw]
      exact Or.inr hbase) _ hheap X'
  exact ⟨t, step t a1, b1⟩
end SMY
