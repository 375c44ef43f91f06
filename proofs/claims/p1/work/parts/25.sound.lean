/-! ===== a method's run on the small machine is its run ===== -/
section SMR
/-- a method: name, bytes, locals, what it returns, handlers -/
abbrev so_I : Type := MethodName × ByteArray × Nat × Option FieldType × List (Nat × Nat × Nat × Nat)
def so_w0 (I : so_I) : Cond := match I.2.2.2.2 with
  | [] => Cond.code I.1 I.2.1 I.2.2.1 I.2.2.2.1
  | a :: t => Cond.codeWith I.1 I.2.1 I.2.2.1 I.2.2.2.1 (a :: t)
/-- an entry of the tables says what the bytes say: on; an end; a throw; a call -/
def so_eA (Ts : List Cond) (cl : List vw_C) (I : so_I) (pc o x y len : Nat) : Prop := ∃ i, decode I.2.1 pc = .ok (i, len) ∧ so_chkA Ts cl I.1.cls I.1.name I.2.2.1 pc i o x y len = true
def so_eR (I : so_I) (pc o : Nat) : Prop := (o = 11 ∧ decode I.2.1 pc = .ok (.ireturn, 1) ∧ I.2.2.2.1 = some .int) ∨ (o = 56 ∧ decode I.2.1 pc = .ok (.ireturn, 1) ∧ I.2.2.2.1 = some .boolean) ∨
  (o = 53 ∧ decode I.2.1 pc = .ok (.areturn, 1) ∧ ∃ rt, I.2.2.2.1 = some rt ∧ ((∃ n, rt = .object n) ∨ ∃ t, rt = .array t)) ∨ (o = 12 ∧ decode I.2.1 pc = .ok (.return_, 1) ∧ I.2.2.2.1 = none)
def so_eT (Ts Bs : List Cond) (strs : List (String × Nat × String)) (I : so_I) (pc o x : Nat) : Prop := o = 15 ∧ x < 3 ∧ I.2.2.2.2 = [] ∧ ∃ (ik is ic : Nat) (text : String) (wide : Bool), so_ck15 Ts Bs I.1.cls ik ic (so_ex x) = true ∧ (I.1.cls, is, text) ∈ strs ∧
  decode I.2.1 pc = .ok (.new ik, 3) ∧ decode I.2.1 (pc + 3) = .ok (.dup, 1) ∧ decode I.2.1 (pc + 4) = .ok (if wide then (.ldc_w is, 3) else (.ldc is, 2)) ∧ decode I.2.1 (pc + (if wide then 7 else 6)) = .ok (.invokespecial ic, 3) ∧ decode I.2.1 (pc + (if wide then 10 else 9)) = .ok (.athrow, 1)
def so_eC (mi : Nat → Option so_I) (Ts Bs : List Cond) (cl : List vw_C) (I : so_I) (pc o x y : Nat) : Prop := ∃ (j : Nat) (J : so_I), mi x = some J ∧
  ((o = 20 ∧ decode I.2.1 pc = .ok (.invokestatic j, 3) ∧ Cond.static J.1 ∈ Ts ∧ so_cky Ts I.1.cls j J.1 (so_w0 J) J.2.2.1 y = true ∧ y ≤ J.2.2.1) ∨
   (o = 21 ∧ decode I.2.1 pc = .ok (.invokespecial j, 3) ∧ J.2.2.2.2 = [] ∧ J.2.2.2.1 = none ∧ J.1.name = "<init>" ∧ Cond.instanceMethod J.1 ∈ Ts ∧ y ≤ J.2.2.1 ∧ ∃ n, y = n + 1 ∧ so_cky Ts I.1.cls j J.1 (so_w0 J) J.2.2.1 n = true) ∨
   (o = 21 ∧ decode I.2.1 pc = .ok (.invokespecial j, 3) ∧ J.2.2.2.2 = [] ∧ J.2.2.2.1 = none ∧ J.1.name = "<init>" ∧ Cond.instanceMethod J.1 ∈ Ts ∧ y ≤ J.2.2.1 ∧ (∃ host, Cond.methodLinkNest I.1.cls j J.1 host ∈ Bs) ∧ ∃ n, y = n + 1 ∧ so_ckz Ts J.1 (so_w0 J) J.2.2.1 n = true) ∨
   (o = 10 ∧ decode I.2.1 pc = .ok (.invokevirtual j, 3) ∧ J.2.2.2.2 = [] ∧ y / 100 < 999 ∧ (∃ q : vw_C, cl[y / 100]? = some q ∧ q.1 = J.1.cls) ∧ Cond.instanceMethod J.1 ∈ Ts ∧ Cond.selects J.1.cls J.1 J.1 ∈ Ts ∧ y % 100 ≤ J.2.2.1 ∧ ∃ n, y % 100 = n + 1 ∧ so_cky Ts I.1.cls j J.1 (so_w0 J) J.2.2.1 n = true))
/-- the handlers: the bytes' table hh, the small machine's tb -/
def so_okH (Ts : List Cond) (own : String) (hh tb : List (Nat × Nat × Nat × Nat)) : Prop := ∃ zs : List ((Nat × Nat × Nat × Nat) × Nat), hh = zs.map (fun z => z.1) ∧ tb = zs.map (fun z => (z.1.1, z.1.2.1, z.1.2.2.1, z.2)) ∧ ∀ z ∈ zs, z.1.2.2.2 ≠ 0 ∧ z.2 < 3 ∧ Cond.classLink own z.1.2.2.2 (so_ex z.2) ∈ Ts
theorem so_hnd_at {pc x q : Nat} : ∀ zs : List ((Nat × Nat × Nat × Nat) × Nat), so_hnd (zs.map (fun z => (z.1.1, z.1.2.1, z.1.2.2.1, z.2))) pc x = some q → ∃ pre z suf, zs = pre ++ z :: suf ∧ z.2 = x ∧ z.1.1 ≤ pc ∧ pc < z.1.2.1 ∧ q = z.1.2.2.1 ∧ ∀ w ∈ pre, ¬ (w.1.1 ≤ pc ∧ pc < w.1.2.1) ∨ w.2 ≠ x := by
  intro zs
  induction zs with
  | nil => intro h; cases h
  | cons z t ih =>
    intro h
    have h : so_if (and (and (Nat.ble z.1.1 pc) (Nat.blt pc z.1.2.1)) (Nat.beq z.2 x)) (some z.1.2.2.1) (so_hnd (t.map (fun z => (z.1.1, z.1.2.1, z.1.2.2.1, z.2))) pc x) = some q := h
    cases hb : and (and (Nat.ble z.1.1 pc) (Nat.blt pc z.1.2.1)) (Nat.beq z.2 x) with
    | true =>
      rw [hb] at h
      cases h
      obtain ⟨h1, h2⟩ := si_and hb
      obtain ⟨h3, h4⟩ := si_and h1
      exact ⟨[], z, t, rfl, Nat.eq_of_beq_eq_true h2, Nat.le_of_ble_eq_true h3, so_blt.mp h4, rfl, fun w hw => by cases hw⟩
    | false =>
      rw [hb] at h
      obtain ⟨pre, z1, suf, e1, e2, e3, e4, e5, e6⟩ := ih h
      refine ⟨z :: pre, z1, suf, by rw [e1]; rfl, e2, e3, e4, e5, fun w hw => ?_⟩
      rcases List.mem_cons.mp hw with rfl | hw
      · by_cases h1 : w.2 = x
        · refine Or.inl (fun h2 => ?_)
          rw [Nat.ble_eq_true_of_le h2.1, so_blt.mpr h2.2, h1, Nat.beq_refl] at hb
          cases hb
        · exact Or.inr h1
      · exact e6 w hw
theorem so_bw_any {w : Cond} (hb : so_bw w = true) {s : State} {args : Array Value} (h : va_Nw w s) : w.before args s = true := by
  unfold so_bw at hb
  split at hb
  · exact h
  · exact h
  · exact va_Nw.use rfl h
  · cases hb
section
variable (l : Launch) (mi : Nat → Option so_I) (code : Nat → Option so_C) (tab : Nat → List (Nat × Nat × Nat × Nat)) (Ts Bs : List Cond) (cl : List vw_C) (strs : List (String × Nat × String)) (scr : List Nat) (D : va_G) (base : Nat)
/-- what is asked of the tables -/
def so_ctx : Prop := l.stackTraces = false ∧ GoodIn Ts Ts ∧ (∀ w ∈ Bs, so_bw w = true) ∧ (∀ x, so_kl Ts cl x) ∧ scr.length < 2 ^ 31 ∧ ∀ (k : Nat) (I : so_I) (cd : so_C), mi k = some I → code k = some cd →
  (∀ pc o x y len, cd pc = some (o, x, y, len) → so_eA Ts cl I pc o x y len ∨ so_eR I pc o ∨ so_eT Ts Bs strs I pc o x ∨ so_eC mi Ts Bs cl I pc o x y) ∧ so_okH Ts I.1.cls I.2.2.2.2 (tab k) ∧ plainName I.1.cls = true
def so_SL (n : Nat) : Prop := ∀ (d k : Nat) (I : so_I) (cd : so_C), mi k = some I → code k = some cd → ∀ (p : Program) (e : Env) (R : Room) (s : State) (m : MethodId) (args : Array Value) (below : List Frame) (meth : Method) (c : Code) (H : Heap) (locs : List Loc) (pc : Nat) (ls : Array Slot) (f : Nat → Nat) (lv : so_L) (st : List Nat) (h : so_H) (ca sa : Nat) (r : so_R) (h' : so_H) (c' s' c0 s0 : Nat) (f0 : Nat → Nat) (n0 : Nat),
  p.tables.exec = Jvm.exec → c.code = I.2.1 → c.maxLocals = I.2.2.1 → meth.name = I.1.name → meth.sig.returnType = I.2.2.2.1 → meth.locks = false → c.exceptionTable.toList = tableOf I.2.2.2.2 → s.vm.findClass I.1.cls = some m.cls → (∀ w ∈ Ts, w.before args s = true) → so_wd D cl base Bs strs s s.heap → d + 10 ≤ R.frames → 60 * d + 200 ≤ R.locals → c' - c0 ≤ R.cells → s' - s0 ≤ R.slots → c0 ≤ ca → s0 ≤ sa → (∀ z, z < n0 → f z = f0 z) → n0 ≤ so_hlen h →
  so_rel D cl base scr f h s H → so_lh f ls I.2.2.1 lv → (∀ q ∈ locs, base ≤ q.base) → so_run (so_ops scr) code tab n d k cd pc lv st h ca sa = some (r, h', c', s') →
  W p l e R s m args below meth c H locs (ca - c0) (sa - s0) (vx_MQ below (so_Qc D cl base scr f0 n0 r h') (so_XC D cl base scr f0 n0 r h') args s (c' - c0) (s' - s0) (fun q => base ≤ q)) (F0 m pc ls (so_ms f st))
end
variable {l : Launch} {mi : Nat → Option so_I} {code : Nat → Option so_C} {tab : Nat → List (Nat × Nat × Nat × Nat)} {Ts Bs : List Cond} {cl : List vw_C} {strs : List (String × Nat × String)} {scr : List Nat} {D : va_G} {base : Nat}
/-- a method's contract -/
theorem so_met {n d k : Nat} {I : so_I} {cd : so_C} {f : Nat → Nat} {as : List Nat} {h h' : so_H} {ca sa c' s' : Nat} {r : so_R} (hC : so_ctx l mi code tab Ts Bs cl strs scr) (ih : so_SL l mi code tab Ts Bs cl strs scr D base n) (hI : mi k = some I) (hcd : code k = some cd)
    (has : so_all so_cat as = true) (hn : as.length ≤ I.2.2.1) (hr : so_run (so_ops scr) code tab n d k cd 0 (so_args as 0) [] h ca sa = some (r, h', c', s')) :
    vx_Met l I.1 (so_w0 I :: Ts) (so_rm d (c' - ca) (s' - sa)) (so_Pc D cl base Bs strs scr f h as) (so_Qc D cl base scr f (so_hlen h) r h') (so_XC D cl base scr f (so_hlen h) r h') (c' - ca) (s' - sa) (fun q => base ≤ q) := by
  obtain ⟨-, -, -, -, -, hm⟩ := hC
  obtain ⟨-, -, hpn⟩ := hm k I cd hI hcd
  have body : ∀ (p : Program) (e : Env) (s : State) (m : MethodId) (args : Array Value) (below : List Frame) (meth : Method) (c : Code) (s₁ : State), BodyLoose p l I.1 (headSpec (so_w0 I :: Ts) (so_rm d (c' - ca) (s' - sa))) I.2.1 I.2.2.1 I.2.2.2.1 e s m args below meth c s₁ → c.maxLocals = I.2.2.1 → c.exceptionTable.toList = tableOf I.2.2.2.2 → so_Pc D cl base Bs strs scr f h as args s →
      W p l e (headSpec (so_w0 I :: Ts) (so_rm d (c' - ca) (s' - sa))).room s m args below meth c s.heap [] 0 0 (vx_MQ below (so_Qc D cl base scr f (so_hlen h) r h') (so_XC D cl base scr f (so_hlen h) r h') args s (c' - ca) (s' - sa) (fun q => base ≤ q)) (entryFrame m args I.2.2.1) := by
    intro p e s m args below meth c s₁ B hml ht hP
    obtain ⟨rfl, h2, h3⟩ := hP
    have hts : ∀ w ∈ Ts, w.before (so_ms f as).toArray s = true := fun w hw => atoms_spec (ws := so_w0 I :: Ts) B.pre w (List.mem_cons_of_mem _ hw)
    have := ih d k I cd hI hcd p e (headSpec (so_w0 I :: Ts) (so_rm d (c' - ca) (s' - sa))).room s m (so_ms f as).toArray below meth c s.heap [] 0 (argsToLocals (so_ms f as).toArray I.2.2.1) f (so_args as 0) [] h ca sa r h' c' s' ca sa f (so_hlen h)
      B.exec B.bytes hml (name_of_methodNamed B.named B.method).1 B.returns B.notSynchronized ht (findClass_of_methodNamed B.named) hts h3 (Nat.le_refl _) (Nat.le_refl _) (Nat.le_refl _) (Nat.le_refl _) (Nat.le_refl _) (Nat.le_refl _) (fun _ _ => rfl) (Nat.le_refl _) h2 (so_entry has hn) (fun q hq => by cases hq) hr
    rw [Nat.sub_self, Nat.sub_self] at this
    exact this
  obtain ⟨y, bytes, maxL, ret, hh⟩ := I
  cases hh with
  | nil =>
    refine vx_ofW hpn (ws' := Ts) (cc := bytes) (maxL := maxL) (ret := ret) rfl (fun p e s m args below meth c s₁ B hml ht hP => body p e s m args below meth c s₁ B hml ?_ hP)
    show c.exceptionTable.toList = []
    cases hl : c.exceptionTable.toList with
    | nil => rfl
    | cons a t => exact (ht a (by rw [hl]; exact List.mem_cons_self)).elim
  | cons a t =>
    refine vx_ofWH hpn (ws' := Ts) (cc := bytes) (maxL := maxL) (ret := ret) (hh := a :: t) rfl (fun p e s m args below meth c s₁ B hml hP => body p e s m args below meth c s₁ B hml ?_ hP)
    exact vx_table (x := y) B (atoms_spec (ws := so_w0 (y, bytes, maxL, ret, a :: t) :: Ts) B.pre _ List.mem_cons_self)
end SMR
