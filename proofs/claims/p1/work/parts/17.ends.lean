/-! ===== a method's ends: returned, threw ===== -/
section SME
/-- more heap, the old cells as they were -/
theorem so_rel.grow {D : va_G} {cl : List vw_C} {base : Nat} {scr : List Nat} {f : Nat → Nat} {h : so_H} {U : State} {H H1 : Heap} (hr : so_rel D cl base scr f h U H) (hsz : H.size ≤ H1.size) (hk : ∀ z, z < H.size → H1[z]? = H[z]?) : so_rel D cl base scr f h U H1 := by
  obtain ⟨h1, h2, h3, h4, h5, h6, h7⟩ := hr
  refine ⟨h1, fun i o ho => ?_, h3, h4, h5.kept (hk _ (by omega)), h6, by omega⟩
  obtain ⟨a1, a2, a3⟩ := h2 i o ho
  exact ⟨a1.kept (hk _ a2), by omega, a3⟩
/-- the name of exception x -/
def so_ex (x : Nat) : String := if x = 0 then "java/lang/IllegalArgumentException" else if x = 1 then "java/lang/IllegalStateException" else "java/lang/IndexOutOfBoundsException"
/-- what a run's end r with heap h' says of the machine's: f0, n0 are the things at the start -/
def so_Qc (D : va_G) (cl : List vw_C) (base : Nat) (scr : List Nat) (f0 : Nat → Nat) (n0 : Nat) (r : so_R) (h' : so_H) : Array Value → State → Outcome → State → Prop := fun _ _ o t =>
  ∃ (v : Option Nat) (f : Nat → Nat), r = .inl v ∧ (∀ i, i < n0 → f i = f0 i) ∧ o = .returned (v.map (so_vl f)) ∧ so_rel D cl base scr f h' t t.heap
def so_XC (D : va_G) (cl : List vw_C) (base : Nat) (scr : List Nat) (f0 : Nat → Nat) (n0 : Nat) (r : so_R) (h' : so_H) : String → State → State → Prop := fun E _ t =>
  ∃ (x : Nat) (f : Nat → Nat), r = .inr x ∧ x < 3 ∧ (∀ i, i < n0 → f i = f0 i) ∧ E = so_ex x ∧ so_rel D cl base scr f h' t t.heap
variable {p : Program} {l : Launch} {e : Env} {R : Room} {s : State} {m : MethodId} {args : Array Value} {below : List Frame} {meth : Method} {c : Code} {H : Heap} {locs : List Loc} {cells slots : Nat}
variable {cc : ByteArray} {pc : Nat} {ls : Array Slot} {f f0 : Nat → Nat} {lv : so_L} {st : List Nat} {nL n0 : Nat} {i : Instr} {len x y v a b j r : Nat} {own : String} {Ts : List Cond}
variable {D : va_G} {cl : List vw_C} {base : Nat} {scr : List Nat} {h : so_H}
theorem se_i (hx : p.tables.exec = Jvm.exec) (hb : c.code = cc) (hret : meth.sig.returnType = some .int) (hlocks : meth.locks = false) (hd : decode cc pc = .ok (.ireturn, 1)) (hv : so_int v = true) (hf : ∀ z, z < n0 → f z = f0 z) (hr : so_rel D cl base scr f h s H) (hl : ∀ q ∈ locs, base ≤ q.base) :
    W p l e R s m args below meth c H locs cells slots (vx_MQ below (so_Qc D cl base scr f0 n0 (.inl (some v)) h) (so_XC D cl base scr f0 n0 (.inl (some v)) h) args s cells slots (fun q => base ≤ q)) (F0 m pc ls (so_ms f [v])) := by
  refine vx_ret ?_
  show W p l e R s m args below meth c H locs cells slots _ (F0 m pc ls [so_vl f v])
  rw [so_vl_int hv]
  refine W.iret hx hb hret (fun t ht hW => ⟨some v, f, rfl, hf, ?_, by rw [ht]; exact hr.moved hW.alike⟩) hl hd hlocks
  rw [Option.map_some, so_vl_int hv]
theorem se_z (hx : p.tables.exec = Jvm.exec) (hb : c.code = cc) (hret : meth.sig.returnType = some .boolean) (hlocks : meth.locks = false) (hd : decode cc pc = .ok (.ireturn, 1)) (hv : so_bo v = true) (hf : ∀ z, z < n0 → f z = f0 z) (hr : so_rel D cl base scr f h s H) (hl : ∀ q ∈ locs, base ≤ q.base) :
    W p l e R s m args below meth c H locs cells slots (vx_MQ below (so_Qc D cl base scr f0 n0 (.inl (some v)) h) (so_XC D cl base scr f0 n0 (.inl (some v)) h) args s cells slots (fun q => base ≤ q)) (F0 m pc ls (so_ms f [v])) := by
  have hv2 : v = 0 ∨ v = 4 := by
    unfold so_bo at hv
    rw [Bool.or_eq_true] at hv
    rcases hv with z | z
    · exact Or.inl (Nat.eq_of_beq_eq_true z)
    · exact Or.inr (Nat.eq_of_beq_eq_true z)
  have hvi : so_int v = true := by rcases hv2 with rfl | rfl <;> rfl
  refine vx_ret ?_
  show W p l e R s m args below meth c H locs cells slots _ (F0 m pc ls [so_vl f v])
  rw [so_vl_int hvi]
  refine W.zret hx hb hret (by rcases hv2 with rfl | rfl <;> decide +kernel) (fun t ht hW => ⟨some v, f, rfl, hf, ?_, by rw [ht]; exact hr.moved hW.alike⟩) hl hd hlocks
  rw [Option.map_some, so_vl_int hvi]
theorem se_a {rt : FieldType} (hx : p.tables.exec = Jvm.exec) (hb : c.code = cc) (hret : meth.sig.returnType = some rt) (hrt : (∃ n, rt = .object n) ∨ ∃ t, rt = .array t) (hlocks : meth.locks = false) (hd : decode cc pc = .ok (.areturn, 1)) (hv : so_ref v = true) (hf : ∀ z, z < n0 → f z = f0 z) (hr : so_rel D cl base scr f h s H) (hl : ∀ q ∈ locs, base ≤ q.base) :
    W p l e R s m args below meth c H locs cells slots (vx_MQ below (so_Qc D cl base scr f0 n0 (.inl (some v)) h) (so_XC D cl base scr f0 n0 (.inl (some v)) h) args s cells slots (fun q => base ≤ q)) (F0 m pc ls (so_ms f [v])) := by
  refine vx_ret ?_
  show W p l e R s m args below meth c H locs cells slots _ (F0 m pc ls [so_vl f v])
  rw [so_vl_ref hv]
  refine W.aret hx hb hret hrt (Or.inr ⟨_, rfl⟩) (fun t ht hW => ⟨some v, f, rfl, hf, ?_, by rw [ht]; exact hr.moved hW.alike⟩) hl hd hlocks
  rw [Option.map_some, so_vl_ref hv]
theorem se_v (hx : p.tables.exec = Jvm.exec) (hb : c.code = cc) (hret : meth.sig.returnType = none) (hlocks : meth.locks = false) (hd : decode cc pc = .ok (.return_, 1)) (hf : ∀ z, z < n0 → f z = f0 z) (hr : so_rel D cl base scr f h s H) (hl : ∀ q ∈ locs, base ≤ q.base) :
    W p l e R s m args below meth c H locs cells slots (vx_MQ below (so_Qc D cl base scr f0 n0 (.inl none) h) (so_XC D cl base scr f0 n0 (.inl none) h) args s cells slots (fun q => base ≤ q)) (F0 m pc ls (so_ms f [])) := by
  refine vx_ret ?_
  exact W.vret hx hb hret (fun t ht hW => ⟨none, f, rfl, hf, rfl, by rw [ht]; exact hr.moved hW.alike⟩) hl hd hlocks
def so_nms : List String := ["java/lang/RuntimeException", "java/lang/Exception"]
/-- the words of a throw: among Ts, or among Bs (casts and declarations) -/
def so_ck15 (Ts Bs : List Cond) (own : String) (ik ic : Nat) (cls : String) : Bool := Bundle.fit cls && so_nms.all Bundle.fit && decide (Cond.classLink own ik cls ∈ Ts) && decide (Cond.initialized cls ∈ Ts) && (vx_atS own ic cls so_nms).all (fun w => decide (w ∈ Ts) || decide (w ∈ Bs)) && (Cond.classLink own ik cls :: Cond.initialized cls :: vx_atS own ic cls so_nms).all vx_ot
theorem se_t {Bs : List Cond} {ik is ic sa : Nat} {text : String} {wide : Bool} (hx : p.tables.exec = Jvm.exec) (hb : c.code = cc) (hl0 : l.stackTraces = false) (hown : s.vm.findClass own = some m.cls) (hts : ∀ w ∈ Ts, w.before args s = true) (hBs : ∀ w ∈ Bs, w.before args s = true)
    (hk : so_ck15 Ts Bs own ik ic (so_ex x) = true) (hstr : vk_R own is text sa s) (hU : vx_Zq Bundle.tN "UNASSIGNED_STACK" Bundle.steD (fun q => base ≤ q) s s.heap) (hN : vx_Zq Bundle.tN "SUPPRESSED_SENTINEL" Bundle.listD (fun q => base ≤ q) s s.heap) (hS : va_S (fun q => base ≤ q) s.heap H locs)
    (hml : c.maxLocals = nL) (hlh : so_lh f ls nL lv) (hlocks : meth.locks = false) (hnx : ∀ z ∈ c.exceptionTable.toList, False)
    (d0 : decode cc pc = .ok (.new ik, 3)) (d3 : decode cc (pc + 3) = .ok (.dup, 1)) (d4 : decode cc (pc + 4) = .ok (if wide then (.ldc_w is, 3) else (.ldc is, 2))) (d6 : decode cc (pc + (if wide then 7 else 6)) = .ok (.invokespecial ic, 3)) (d9 : decode cc (pc + (if wide then 10 else 9)) = .ok (.athrow, 1))
    (hx3 : x < 3) (hf1 : 5 < R.frames) (hf2 : ((so_ms f st).map fun v => v.category).sum + 82 ≤ R.locals) (hc : cells + 1 ≤ R.cells) (hs : slots + 6 ≤ R.slots) (hf : ∀ z, z < n0 → f z = f0 z) (hr : so_rel D cl base scr f h s H) :
    W p l e R s m args below meth c H locs cells slots (vx_MQ below (so_Qc D cl base scr f0 n0 (.inr x) h) (so_XC D cl base scr f0 n0 (.inr x) h) args s (cells + 1) (slots + 6) (fun q => base ≤ q)) (F0 m pc ls (so_ms f st)) := by
  unfold so_ck15 at hk
  simp only [Bool.and_eq_true, decide_eq_true_eq, List.all_eq_true, Bool.or_eq_true] at hk
  obtain ⟨⟨⟨⟨⟨k1, k2⟩, k3⟩, k4⟩, k5⟩, k6⟩ := hk
  have hat : ∀ w ∈ vx_atS own ic (so_ex x) so_nms, w.before args s = true := fun w hw => (k5 w hw).elim (hts w) (hBs w)
  have hX : ∀ t : State, s.vm.Alike t.vm → H.size ≤ t.heap.size → (∀ q : Nat, q < H.size → t.heap[q]? = H[q]?) → so_XC D cl base scr f0 n0 (.inr x) h (so_ex x) s t := fun t hvm hsz hold => ⟨x, f, rfl, hx3, hf, rfl, (hr.moved hvm).grow hsz hold⟩
  cases wide with
  | false => exact vx_throwS hx hb hl0 hown k1 k2 (hts _ k3) (hts _ k4) hstr hat k6 hU hN hS (by rw [hml]; exact hlh.1) d0 d3 d4 d6 d9 (fun z hz => (hnx z hz).elim) hf1 (by show _ + (13 * (2 + 1) + 43) ≤ _; omega) hc hs hlocks hX hS.2.2 (Nat.le_refl _) (Nat.le_refl _)
  | true => exact vx_throwSW hx hb hl0 hown k1 k2 (hts _ k3) (hts _ k4) hstr hat k6 hU hN hS (by rw [hml]; exact hlh.1) d0 d3 d4 d6 d9 (fun z hz => (hnx z hz).elim) hf1 (by show _ + (13 * (2 + 1) + 43) ≤ _; omega) hc hs hlocks hX hS.2.2 (Nat.le_refl _) (Nat.le_refl _)
end SME
