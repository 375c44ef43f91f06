/-! ===== the law's start; a script of at most six ints ===== -/
section SMStart
theorem so_fresh {s t : State} {L : List Loc} {k n : Nat} (h : s.sameButNew t L k n) (hL : ∀ q ∈ L, s.heap.size ≤ q.base) : s.sameButNew t [] k n := by
  obtain ⟨h1, h2, h3, h4, h5, h6⟩ := h
  refine ⟨h1, h2, h3, h4, h5, fun a c hc => ?_⟩
  obtain ⟨c', g1, g2, g3, g4⟩ := h6 a c hc
  refine ⟨c', g1, g2, g3, fun i _ => g4 i (fun hm => ?_)⟩
  have h7 : s.heap.size ≤ a := hL _ hm
  have h8 := (Array.getElem?_eq_some_iff.mp hc).1
  omega
/-- the script's ints by their bits -/
def so_bits (xs : List Int32) : List Nat := xs.map (fun v => v.toUInt32.toNat)
theorem so_bits_lt {xs : List Int32} : ∀ w ∈ so_bits xs, w < 4294967296 := by
  intro w hw
  obtain ⟨v, -, rfl⟩ := List.mem_map.mp hw
  exact v.toUInt32.toNat_lt
theorem so_bits_at {xs : List Int32} {j : Nat} (hj : j < xs.length) : Int32.ofNat ((so_bits xs).getD j 0) = xs.getD j 0 := by
  unfold so_bits
  rw [List.getD_eq_getElem?_getD, List.getD_eq_getElem?_getD, List.getElem?_map, List.getElem?_eq_getElem hj]
  show Int32.ofNat (xs[j].toUInt32.toNat) = xs[j]
  apply Int32.toBitVec_inj.mp
  show BitVec.ofNat 32 (xs[j].toBitVec.toNat) = xs[j].toBitVec
  rw [BitVec.ofNat_toNat, BitVec.setWidth_eq]
theorem so_rel0 {D : va_G} {s : State} {b : Nat} {xs : List Int32} (hX : va_X b xs.length (fun j => xs.getD j 0) s s.heap) (hb : b < s.heap.size) : so_rel D so_rows s.heap.size (so_bits xs) (fun _ => b) so_h0 s s.heap := by
  have hfl : ∀ (i : Nat) (o : so_O), so_h0.flatten[i]? = some o → i = 0 ∧ o = (1002, 0, 0) := by
    intro i o ho
    have ho : [((1002 : Nat), (0 : Nat), (0 : Nat))][i]? = some o := ho
    cases i with
    | zero => cases ho; exact ⟨rfl, rfl⟩
    | succ i => cases ho
  refine ⟨Or.inr ⟨by decide, rfl⟩, fun i o ho => ?_, fun i j oi oj hi hj _ _ _ => ?_, ⟨0, 0, rfl⟩, ?_, hb, Nat.le_refl _⟩
  · obtain ⟨rfl, rfl⟩ := hfl i o ho
    refine ⟨⟨fun z => ?_, fun z => ?_, fun z => ?_⟩, hb, fun z => absurd z (Nat.lt_irrefl 0)⟩
    · have z : (1002 : Nat) < 999 := z
      omega
    · have z : (1002 : Nat) = 1003 := z
      omega
    · have z : (1002 : Nat) = 1000 := z
      omega
  · rw [(hfl i oi hi).1, (hfl j oj hj).1]
  · obtain ⟨scr, h1, h2, h3, h4, h5⟩ := hX
    have hl : (so_bits xs).length = xs.length := List.length_map _
    refine ⟨scr, h1, h2, h3, by rw [hl]; exact h4, fun j hj => ?_⟩
    rw [hl] at hj
    rw [h5 j hj]
    show some (Value.int (xs.getD j 0)) = some (Value.int (Int32.ofNat ((so_bits xs).getD j 0)))
    rw [so_bits_at hj]
theorem so_inst {c : Nat} {q : vw_C} (h : so_rows[c]? = some q) : Cond.instantiable q.1 q.2.2 ∈ so_Ts := by
  have h1 : so_rows.all (fun q => decide (Cond.instantiable q.1 q.2.2 ∈ so_pick (k2_sels lw_privs) [] ++ so_pick tables_1 [22, 30, 36, 42, 196, 232, 266, 282, 318, 372, 1343])) = true := by decide +kernel
  exact so_tin [] [22, 30, 36, 42, 196, 232, 266, 282, 318, 372, 1343] (by decide +kernel) _ (of_decide_eq_true (List.all_eq_true.mp h1 q (List.mem_of_getElem? h)))
theorem so_K0 {s : State} {args : Array Value} (hts : ∀ w ∈ so_Ts, w.before args s = true) : ∃ D, va_K D so_rows [] s := by
  have h : ∀ c : Nat, ∃ Q : ClassId × (Nat → Nat), ∀ q, so_rows[c]? = some q → u_Kn s q.1 q.2.1 q.2.2 Q.1 Q.2 := by
    intro c
    cases hq : so_rows[c]? with
    | none => exact ⟨(0, fun _ => 0), fun q h => by cases h⟩
    | some q =>
      obtain ⟨cC, iS, hK⟩ := u_known hts (so_kla c q hq).1 (hts _ (so_inst hq))
      exact ⟨(cC, iS), fun q' h => by cases h; exact hK⟩
  exact ⟨(fun c => (Classical.choose (h c)).1, fun c => (Classical.choose (h c)).2), fun c q hq => Classical.choose_spec (h c) q hq, fun k q hk => by cases hk⟩
theorem so_bw_nw {w : Cond} {args : Array Value} {s : State} (hb : so_bw w = true) (h : w.before args s = true) : va_Nw w s := by
  unfold so_bw at hb
  split at hb
  · exact va_tabs rfl rfl h
  · exact va_tabs rfl rfl h
  · exact va_tabs rfl rfl h
  · cases hb
theorem so_Bs_at {s : State} {args : Array Value} (hts : ∀ w ∈ tables_1, w.before args s = true) : ∀ w ∈ so_Bs, va_Nw w s := by
  intro w hw
  rcases List.mem_append.mp hw with hw | hw
  · exact so_bw_nw (List.mem_filter.mp hw).2 (hts _ (List.mem_filter.mp hw).1)
  · have h1 : ∀ w ∈ [Cond.castable (so_ex 0) (so_ex 0), Cond.castable (so_ex 1) (so_ex 1), Cond.castable (so_ex 2) (so_ex 2)], w ∈ so_pick tables_1 [472, 586, 630] := by decide +kernel
    have h2 : so_bw w = true := so_Bs_bw w (List.mem_append_right _ hw)
    exact so_bw_nw h2 (hts _ (so_pick_mem (h1 w hw)))
def so_nar : Cond := Jvm.Cond.and given_1 narrow_1
theorem so_strs_at {s : State} {args : Array Value} (hts : ∀ w ∈ tables_1, w.before args s = true) (hn : so_nar.before args s = true) : ∀ q ∈ so_strs, ∃ sa, vk_R q.1 q.2.1 q.2.2 sa s := by
  intro q hq
  have h1 : so_strs.all (fun q => decide (Cond.stringRef q.1 q.2.1 q.2.2 ∈ so_pick tables_1 [511, 593, 618, 637, 657, 667, 717, 729, 753, 781, 838, 937, 975, 996, 1033, 1073, 1086, 1100, 1109, 1125, 1146, 1189, 1204, 1237, 1300, 1312, 1337])) = true := by decide +kernel
  have h2 : so_strs.all (fun q => decide (Cond.exactly (Term.string q.1 q.2.1) "java/lang/String" ∈ flatC so_nar)) = true := by decide +kernel
  have g1 := hts _ (so_pick_mem (of_decide_eq_true (List.all_eq_true.mp h1 q hq)))
  have g2 := flat_of_before so_nar hn _ (of_decide_eq_true (List.all_eq_true.mp h2 q hq))
  obtain ⟨a, -, -, -, ha, -⟩ := Cond.exactly_spec g2
  exact ⟨a, vk_R.of (A := args) g1 ha⟩
theorem so_wd0 {s : State} {args : Array Value} {D : va_G} (hK : va_K D so_rows [] s) (hts : ∀ w ∈ tables_1, w.before args s = true) (hn : so_nar.before args s = true) : so_wd D so_rows s.heap.size so_Bs so_strs s s.heap := by
  have hs := flat_of_before so_nar hn
  have hA : ∀ a : Nat, a < s.heap.size → ¬ s.heap.size ≤ a := fun a h => by omega
  have t1 : Cond.laysStatic Bundle.tN "UNASSIGNED_STACK" Bundle.steD ∈ so_pick tables_1 [497, 499] := by decide +kernel
  have t2 : Cond.laysStatic Bundle.tN "SUPPRESSED_SENTINEL" Bundle.listD ∈ so_pick tables_1 [497, 499] := by decide +kernel
  have t3 : Cond.initialized Bundle.tN ∈ so_pick tables_1 [15] := by decide +kernel
  refine ⟨hK, so_Bs_at hts, so_strs_at hts hn, vx_Zqof (hts _ (so_pick_mem t1)) (hts _ (so_pick_mem t3)) (hs _ (by decide +kernel)) hA, vx_Zqof (hts _ (so_pick_mem t2)) (hts _ (so_pick_mem t3)) (hs _ (by decide +kernel)) hA, fun a b ha hb hab => ?_, fun a ha => ?_⟩
  · have h1 : (List.range 3).all (fun a => (List.range 3).all (fun b => Nat.beq a b || decide (Cond.not (Cond.castable (so_ex a) (so_ex b)) ∈ flatC so_nar))) = true := by decide +kernel
    have h2 := List.all_eq_true.mp (List.all_eq_true.mp h1 a (List.mem_range.mpr ha)) b (List.mem_range.mpr hb)
    rw [Bool.or_eq_true] at h2
    rcases h2 with h2 | h2
    · exact absurd (Nat.eq_of_beq_eq_true h2) hab
    · exact va_Nc.of (hs _ (of_decide_eq_true h2))
  · have h1 : (List.range 3).all (fun a => decide (Cond.castable (so_ex a) (so_ex a) ∈ so_pick tables_1 [472, 586, 630])) = true := by decide +kernel
    exact so_bw_nw rfl (hts _ (so_pick_mem (of_decide_eq_true (List.all_eq_true.mp h1 a (List.mem_range.mpr ha)))))
def lw_Q (_ : Array Value) (s : State) (o : Outcome) (t : State) : Prop := o = .returned (some (.int 1)) ∧ Framed s o t [] 600002 7302232
def lw_P (b : Addr) (xs : List Int32) (args : Array Value) (s : State) : Prop := args = #[.ref b] ∧ s.IntsAt b xs ∧ xs.length ≤ 6 ∧ (Jvm.Cond.and given_1 narrow_1).before args s = true
set_option maxHeartbeats 4000000 in
theorem lw_walk (l : Launch) (hl : l.stackTraces = false) (b : Addr) (xs : List Int32) : MetFree l x (headSpec (Jvm.Cond.code x code maxLocals ret :: tables_1) room_1) (lw_P b xs) (fun _ _ _ _ _ => True) lw_Q := by
  refine MetFree.of_bodyS (code := code) (maxLocals := maxLocals) (ret := ret) (by decide) ?_ ?_
  · intro args s m h hn
    obtain ⟨meth, c, h1, h2, h3, h4, h5, h6, -, -⟩ := Cond.code_spec hn (atoms_spec (ws := Jvm.Cond.code x code maxLocals ret :: tables_1) h _ List.mem_cons_self)
    exact ⟨meth, c, h1, h2, h3, h4, h5, h6⟩
  · intro p e s m args below meth c s₁ B hml0 hP _
    obtain ⟨rfl, hx, hbd, hgv⟩ := hP
    obtain ⟨scr, harrAt, hlist, hof, hsmall⟩ := hx
    obtain ⟨hcb, hkn, -, -⟩ := State.arrayAt?_spec harrAt
    have hown : s.vm.findClass x.cls = some m.cls := findClass_of_methodNamed B.named
    have hts0 : ∀ c ∈ (Jvm.Cond.code x code maxLocals ret :: tables_1), c.before #[Value.ref b] s = true := atoms_spec (ws := Jvm.Cond.code x code maxLocals ret :: tables_1) B.pre
    have htb : ∀ w ∈ tables_1, w.before #[Value.ref b] s = true := fun w hw => hts0 w (List.mem_cons_of_mem _ hw)
    have hts1 : ∀ w ∈ lw_tbl, w.before #[Value.ref b] s = true := k2_hts_sels lw_privs htb lw_privs_ok
    have hts : ∀ w ∈ so_Ts, w.before #[Value.ref b] s = true := fun w hw => by
      rcases so_Ts_tbl w hw with rfl | hw
      · exact hts0 _ List.mem_cons_self
      · exact hts1 w hw
    have hml : c.maxLocals = 7 := B.maxLocals_eq (hts0 _ List.mem_cons_self)
    have ht : c.exceptionTable.toList = tableOf [] := by
      obtain ⟨meth9, c9, h1, h2, -, -, -, -, h7, -⟩ := Cond.code_spec B.named (hts0 _ List.mem_cons_self)
      cases Option.some.inj (h1.symm.trans B.method)
      cases Option.some.inj (h2.symm.trans (Stand.of_body B).code)
      rw [Array.isEmpty_iff.mp h7]
      rfl
    have X₀ : Stand p l e room_1 s m #[Value.ref b] below meth c s₁ [] 0 0 := Stand.of_body B
    have hh0 : s₁.heap = s.heap := by rw [B.state]; rfl
    have hsz : scr.slots.size = xs.length := by rw [← Array.length_toList, hlist, List.length_map]
    have hval : ∀ j : Nat, j < xs.length → scr.slots[j]? = some (.int (xs.getD j 0)) := fun j hj => by
      rw [← Array.getElem?_toList, hlist]
      simp [hj]
    have hbl : b < s.heap.size := (Array.getElem?_eq_some_iff.mp hcb).1
    have hX : va_X b xs.length (fun j => xs.getD j 0) s s.heap := ⟨scr, hcb, hof, hkn, hsz, hval⟩
    obtain ⟨D, hK⟩ := so_K0 hts
    have hlen : (so_bits xs).length = xs.length := List.length_map _
    obtain ⟨n, h', c', s', hrun, hc', hs'⟩ := so_all6 (scr := so_bits xs) (by rw [hlen]; exact hbd) so_bits_lt
    have hC := so_ctx_all (l := l) hl (scr := so_bits xs) (by rw [hlen]; omega)
    have K := so_sl (D := D) (base := s.heap.size) hC n 60 306 so_i306 so_c306 rfl rfl p e room_1 s m #[Value.ref b] below meth c s.heap [] 0 (argsToLocals #[Value.ref b] 7) (fun _ => b) [(0, 1)] [] so_h0 0 0 (.inl (some 4)) h' c' s' 0 0 (fun _ => b) (so_hlen so_h0)
      B.exec B.bytes hml (name_of_methodNamed B.named B.method).1 B.returns B.notSynchronized ht hown hts (so_wd0 hK htb hgv) (by decide) (by decide) hc' hs' (Nat.le_refl _) (Nat.le_refl _) (fun _ _ => rfl) (Nat.le_refl _) (so_rel0 hX hbl) (so_entry (f := fun _ => b) (as := [1]) (nL := 7) rfl (by decide)) (fun q hq => by cases hq) hrun
    obtain ⟨t, a1, o, b1, b2, b3⟩ := K s₁ hh0 X₀
    refine ⟨t, o, a1, b1, b2, ?_⟩
    rcases b3 with ⟨⟨v, f, hv, -, ho, -⟩, Lc, ⟨f1, f2, f3⟩, hL⟩ | ⟨q, -, E, ce, Lc, ⟨x9, f9, h9, -⟩, -⟩
    · cases hv
      refine ⟨ho, f1, f2, so_fresh (State.sameButNew.mono f3 ?_ ?_) hL⟩
      · rw [Nat.sub_zero]; exact hc'
      · rw [Nat.sub_zero]; exact hs'
    · cases h9
end SMStart
