/-! ===== calls of the small machine are the machine's ===== -/
section SMG
variable {p : Program} {l : Launch} {e : Env} {R : Room} {s : State} {m : MethodId} {args : Array Value} {below : List Frame} {meth : Method} {c : Code} {H : Heap} {locs : List Loc} {cells slots mc ms : Nat} {Q : State → Prop}
variable {pc : Nat} {ls : Array Slot} {f : Nat → Nat} {lv : so_L} {st as : List Nat} {nL : Nat} {a : Array Value} {cc bytes : ByteArray} {own : String} {Ts Bs : List Cond} {strs : List (String × Nat × String)}
variable {D : va_G} {cl : List vw_C} {base : Nat} {scr : List Nat} {h h' : so_H} {r : so_R} {y : MethodName} {d maxL j n : Nat} {ret : Option FieldType} {hh : List (Nat × Nat × Nat × Nat)}
def so_rm (d mc ms : Nat) : Room := { frames := d + 10, locals := 60 * d + 200, cells := mc, slots := ms }
/-- what a method's state keeps of the heap at its start -/
theorem sc_frame {g : JFrame} (hlocs : ∀ q ∈ locs, base ≤ q.base) (k : va_S (fun q => base ≤ q) s.heap H locs → W p l e R s m args below meth c H locs cells slots Q g) : W p l e R s m args below meth c H locs cells slots Q g := by
  intro T hT X
  refine k ?_ T hT X
  obtain ⟨h1, h2⟩ := vx_frame (U := T) X.same
  rw [hT] at h1 h2
  exact ⟨h1, fun q hq hn => h2 q hq (fun z hz hb => hn (by rw [← hb]; exact hlocs z hz)), hlocs⟩
theorem sc_pre (hB : ∀ w ∈ Bs, so_bw w = true) (hr : so_rel D cl base scr f h s H) (hwd : so_wd D cl base Bs strs s s.heap) (hS : va_S (fun q => base ≤ q) s.heap H locs) (as : List Nat) : PreS s H (so_Pc D cl base Bs strs scr f h as) (so_ms f as) :=
  ⟨so_Pc_blind hB, fun U hU hW => ⟨rfl, by rw [hU]; exact hr.moved hW.alike, by rw [hU]; exact hwd.warm hB hW hS.2.1⟩⟩
theorem so_ms_app (f : Nat → Nat) (as st : List Nat) : so_ms f (as.reverse ++ st) = (so_ms f as).reverse ++ so_ms f st := by
  unfold so_ms
  rw [List.map_append, List.map_reverse]
/-- a call's words, whichever kind: the method's own word w0, its class, its parameters -/
def so_cky (Ts : List Cond) (own : String) (j : Nat) (y : MethodName) (w0 : Cond) (maxL n : Nat) : Bool := decide (Cond.methodLink own j y ∈ Ts) && decide (Cond.initialized y.cls ∈ Ts) && decide (w0 ∈ Ts) && decide (y.cls ≠ "java/lang/invoke/MethodHandle") && decide (y.cls ≠ "java/lang/invoke/VarHandle") && decide ((parseMethodDescriptor y.desc).map (fun d => d.parameters.length) = some n) && Nat.ble maxL 41
theorem so_cky_at {w0 : Cond} (hk : so_cky Ts own j y w0 maxL n = true) : Cond.methodLink own j y ∈ Ts ∧ Cond.initialized y.cls ∈ Ts ∧ w0 ∈ Ts ∧ (y.cls ≠ "java/lang/invoke/MethodHandle" ∧ y.cls ≠ "java/lang/invoke/VarHandle" ∧ (parseMethodDescriptor y.desc).map (fun d => d.parameters.length) = some n) ∧ maxL ≤ 41 := by
  unfold so_cky at hk
  simp only [Bool.and_eq_true, decide_eq_true_eq] at hk
  obtain ⟨⟨⟨⟨⟨⟨k1, k2⟩, k3⟩, k4⟩, k5⟩, k6⟩, k7⟩ := hk
  exact ⟨k1, k2, k3, ⟨k4, k5, k6⟩, Nat.le_of_ble_eq_true k7⟩
theorem sc_S (S : CallFix p m c cc nL s args Ts own) (hG : GoodIn Ts Ts) (hM : vx_Met l y (Cond.code y bytes maxL ret :: Ts) (so_rm d mc ms) (so_Pc D cl base Bs strs scr f h as) (so_Qc D cl base scr f (so_hlen h) r h') (so_XC D cl base scr f (so_hlen h) r h') mc ms (fun q => base ≤ q))
    (hk : so_cky Ts own j y (Cond.code y bytes maxL ret) maxL n = true) (hks : Cond.static y ∈ Ts) (hn : as.length = n) (hR : d + 11 ≤ R.frames ∧ 60 * d + 260 ≤ R.locals) (hl : so_lh f ls nL lv) (hd : decode cc pc = .ok (.invokestatic j, 3)) (h4 : so_ct st ≤ 8) (hf : cells + mc ≤ R.cells ∧ slots + ms ≤ R.slots)
    (hB : ∀ w ∈ Bs, so_bw w = true) (hr : so_rel D cl base scr f h s H) (hwd : so_wd D cl base Bs strs s s.heap) (hS : va_S (fun q => base ≤ q) s.heap H locs) :
    vx_Run p l e R s m args below meth c H locs cells slots mc ms (F0 m pc ls (so_ms f (as.reverse ++ st))) (so_ms f st) (so_Qc D cl base scr f (so_hlen h) r h' (so_ms f as).toArray) (so_XC D cl base scr f (so_hlen h) r h') (fun q => base ≤ q) := by
  obtain ⟨w1, w2, w3, hy, hm⟩ := so_cky_at hk
  have hT : GoodIn Ts (va_wsS own j y (Cond.code y bytes maxL ret :: Ts)) := by
    intro w hw
    have : w ∈ Ts := by
      unfold va_wsS at hw
      simp only [List.cons_append, List.nil_append, List.mem_cons] at hw
      rcases hw with rfl | rfl | rfl | rfl | hw
      · exact w1
      · exact hks
      · exact w2
      · exact w3
      · exact hw
    exact hG w this
  have hc := so_cats2 f st
  exact vx_runS S hM (va_cwS n S.2.2.2.2 hT rfl rfl rfl hy ⟨by show d + 10 + 1 ≤ _; omega, by show 8 + (maxL + 11) + (60 * d + 200) ≤ _; omega⟩) (sc_pre hB hr hwd hS as) rfl (by unfold so_ms; rw [List.length_map]; exact hn) hl.1 (by rw [← so_ms_app]) (by show 2 * 0 + _ ≤ 8; omega) hd hf
/-- a static call of a method with handlers -/
theorem sc_SH (S : CallFix p m c cc nL s args Ts own) (hG : GoodIn Ts Ts) (hM : vx_Met l y (Cond.codeWith y bytes maxL ret hh :: Ts) (so_rm d mc ms) (so_Pc D cl base Bs strs scr f h as) (so_Qc D cl base scr f (so_hlen h) r h') (so_XC D cl base scr f (so_hlen h) r h') mc ms (fun q => base ≤ q))
    (hk : so_cky Ts own j y (Cond.codeWith y bytes maxL ret hh) maxL n = true) (hks : Cond.static y ∈ Ts) (hn : as.length = n) (hR : d + 11 ≤ R.frames ∧ 60 * d + 260 ≤ R.locals) (hl : so_lh f ls nL lv) (hd : decode cc pc = .ok (.invokestatic j, 3)) (h4 : so_ct st ≤ 8) (hf : cells + mc ≤ R.cells ∧ slots + ms ≤ R.slots)
    (hB : ∀ w ∈ Bs, so_bw w = true) (hr : so_rel D cl base scr f h s H) (hwd : so_wd D cl base Bs strs s s.heap) (hS : va_S (fun q => base ≤ q) s.heap H locs) :
    vx_Run p l e R s m args below meth c H locs cells slots mc ms (F0 m pc ls (so_ms f (as.reverse ++ st))) (so_ms f st) (so_Qc D cl base scr f (so_hlen h) r h' (so_ms f as).toArray) (so_XC D cl base scr f (so_hlen h) r h') (fun q => base ≤ q) := by
  obtain ⟨w1, w2, w3, hy, hm⟩ := so_cky_at hk
  have hT : GoodIn Ts (va_wsS own j y (Cond.codeWith y bytes maxL ret hh :: Ts)) := by
    intro w hw
    have : w ∈ Ts := by
      unfold va_wsS at hw
      simp only [List.cons_append, List.nil_append, List.mem_cons] at hw
      rcases hw with rfl | rfl | rfl | rfl | hw
      · exact w1
      · exact hks
      · exact w2
      · exact w3
      · exact hw
    exact hG w this
  have hc := so_cats2 f st
  exact vx_runSX S hM (vx_cwSW n S.2.2.2.2 hT rfl rfl rfl hy ⟨by show d + 10 + 1 ≤ _; omega, by show 8 + (maxL + 11) + (60 * d + 200) ≤ _; omega⟩) (sc_pre hB hr hwd hS as) rfl (by unfold so_ms; rw [List.length_map]; exact hn) hl.1 (by rw [← so_ms_app]) (by show 2 * 0 + _ ≤ 8; omega) hd hf
variable {b : Nat}
theorem so_ms_app1 (f : Nat → Nat) (b : Nat) (as st : List Nat) (hb : so_ref b = true) : so_ms f ((b :: as).reverse ++ st) = (so_ms f as).reverse ++ .ref (f (b / 4)) :: so_ms f st := by
  rw [so_ms_app]
  show (so_vl f b :: so_ms f as).reverse ++ so_ms f st = _
  rw [so_vl_ref hb, List.reverse_cons, List.append_assoc]
  rfl
theorem so_ms_c1 (f : Nat → Nat) (b : Nat) (as : List Nat) (hb : so_ref b = true) : so_ms f (b :: as) = .ref (f (b / 4)) :: so_ms f as := by
  show so_vl f b :: so_ms f as = _
  rw [so_vl_ref hb]
/-- a constructor's call -/
theorem sc_I (S : CallFix p m c cc nL s args Ts own) (hG : GoodIn Ts Ts) (hM : vx_Met l y (Cond.code y bytes maxL none :: Ts) (so_rm d mc ms) (so_Pc D cl base Bs strs scr f h (b :: as)) (so_Qc D cl base scr f (so_hlen h) r h') (so_XC D cl base scr f (so_hlen h) r h') mc ms (fun q => base ≤ q))
    (hk : so_cky Ts own j y (Cond.code y bytes maxL none) maxL n = true) (hki : Cond.instanceMethod y ∈ Ts) (hy1 : y.name = "<init>") (hn : as.length = n) (hb : so_ref b = true) (hR : d + 11 ≤ R.frames ∧ 60 * d + 260 ≤ R.locals) (hl : so_lh f ls nL lv) (hd : decode cc pc = .ok (.invokespecial j, 3)) (h4 : so_ct st ≤ 8) (hf : cells + mc ≤ R.cells ∧ slots + ms ≤ R.slots)
    (hB : ∀ w ∈ Bs, so_bw w = true) (hr : so_rel D cl base scr f h s H) (hwd : so_wd D cl base Bs strs s s.heap) (hS : va_S (fun q => base ≤ q) s.heap H locs) :
    vx_Run p l e R s m args below meth c H locs cells slots mc ms (F0 m pc ls (so_ms f ((b :: as).reverse ++ st))) (so_ms f st) (so_Qc D cl base scr f (so_hlen h) r h' (so_ms f (b :: as)).toArray) (so_XC D cl base scr f (so_hlen h) r h') (fun q => base ≤ q) := by
  obtain ⟨w1, w2, w3, hy, hm⟩ := so_cky_at hk
  have hT : GoodIn Ts (Cond.code y bytes maxL none :: Ts) := by
    intro w hw
    rcases List.mem_cons.mp hw with rfl | hw
    · exact hG _ w3
    · exact hG w hw
  have hc := so_cats2 f st
  have hp := sc_pre hB hr hwd hS (b :: as)
  rw [so_ms_c1 f b as hb] at hp ⊢
  exact sx_runI S hM (cwI n S.2.2.2.2 hT rfl rfl rfl (S.2.2.2.2 _ w2) (S.2.2.2.2 _ w1) (S.2.2.2.2 _ hki) hy1 hy ⟨by show d + 10 + 1 ≤ _; omega, by show 8 + (maxL + 11) + (60 * d + 200) ≤ _; omega⟩) hp rfl (by unfold so_ms; rw [List.length_map]; exact hn) hl.1 (by rw [← so_ms_app1 f b as st hb]) (by show 2 * 0 + _ ≤ 8; omega) hd hf
/-- a call's words but its link -/
def so_ckz (Ts : List Cond) (y : MethodName) (w0 : Cond) (maxL n : Nat) : Bool := decide (Cond.initialized y.cls ∈ Ts) && decide (w0 ∈ Ts) && decide (y.cls ≠ "java/lang/invoke/MethodHandle") && decide (y.cls ≠ "java/lang/invoke/VarHandle") && decide ((parseMethodDescriptor y.desc).map (fun d => d.parameters.length) = some n) && Nat.ble maxL 41
theorem so_ckz_at {w0 : Cond} (hk : so_ckz Ts y w0 maxL n = true) : Cond.initialized y.cls ∈ Ts ∧ w0 ∈ Ts ∧ (y.cls ≠ "java/lang/invoke/MethodHandle" ∧ y.cls ≠ "java/lang/invoke/VarHandle" ∧ (parseMethodDescriptor y.desc).map (fun d => d.parameters.length) = some n) ∧ maxL ≤ 41 := by
  unfold so_ckz at hk
  simp only [Bool.and_eq_true, decide_eq_true_eq] at hk
  obtain ⟨⟨⟨⟨⟨k2, k3⟩, k4⟩, k5⟩, k6⟩, k7⟩ := hk
  exact ⟨k2, k3, ⟨k4, k5, k6⟩, Nat.le_of_ble_eq_true k7⟩
/-- a call of a nest mate's constructor -/
theorem sc_IN {host : String} (S : CallFix p m c cc nL s args Ts own) (hG : GoodIn Ts Ts) (hM : vx_Met l y (Cond.code y bytes maxL none :: Ts) (so_rm d mc ms) (so_Pc D cl base Bs strs scr f h (b :: as)) (so_Qc D cl base scr f (so_hlen h) r h') (so_XC D cl base scr f (so_hlen h) r h') mc ms (fun q => base ≤ q))
    (hk : so_ckz Ts y (Cond.code y bytes maxL none) maxL n = true) (hl9 : va_Nw (Cond.methodLinkNest own j y host) s) (hki : Cond.instanceMethod y ∈ Ts) (hy1 : y.name = "<init>") (hn : as.length = n) (hb : so_ref b = true) (hR : d + 11 ≤ R.frames ∧ 60 * d + 260 ≤ R.locals) (hl : so_lh f ls nL lv) (hd : decode cc pc = .ok (.invokespecial j, 3)) (h4 : so_ct st ≤ 8) (hf : cells + mc ≤ R.cells ∧ slots + ms ≤ R.slots)
    (hB : ∀ w ∈ Bs, so_bw w = true) (hr : so_rel D cl base scr f h s H) (hwd : so_wd D cl base Bs strs s s.heap) (hS : va_S (fun q => base ≤ q) s.heap H locs) :
    vx_Run p l e R s m args below meth c H locs cells slots mc ms (F0 m pc ls (so_ms f ((b :: as).reverse ++ st))) (so_ms f st) (so_Qc D cl base scr f (so_hlen h) r h' (so_ms f (b :: as)).toArray) (so_XC D cl base scr f (so_hlen h) r h') (fun q => base ≤ q) := by
  obtain ⟨w2, w3, hy, hm⟩ := so_ckz_at hk
  have hT : GoodIn Ts (Cond.code y bytes maxL none :: Ts) := by
    intro w hw
    rcases List.mem_cons.mp hw with rfl | hw
    · exact hG _ w3
    · exact hG w hw
  have hc := so_cats2 f st
  have hp := sc_pre hB hr hwd hS (b :: as)
  rw [so_ms_c1 f b as hb] at hp ⊢
  exact sx_runIN S hM ⟨va_cnB n S.2.2.2.2 hT rfl rfl rfl hl9 (S.2.2.2.2 _ w2) hy ⟨by show d + 10 + 1 ≤ _; omega, by show 8 + (maxL + 11) + (60 * d + 200) ≤ _; omega⟩, hy1, S.2.2.2.2 _ hki⟩ hp rfl (by unfold so_ms; rw [List.length_map]; exact hn) hl.1 (by rw [← so_ms_app1 f b as st hb]) (by show 2 * 0 + _ ≤ 8; omega) hd hf
/-- a call on an object -/
theorem sc_V {x nf N : Nat} {q : vw_C} (S : CallFix p m c cc nL s args Ts own) (hG : GoodIn Ts Ts) (hM : vx_Met l y (Cond.code y bytes maxL ret :: Ts) (so_rm d mc ms) (so_Pc D cl base Bs strs scr f h (b :: as)) (so_Qc D cl base scr f (so_hlen h) r h') (so_XC D cl base scr f (so_hlen h) r h') mc ms (fun q => base ≤ q))
    (hk : so_cky Ts own j y (Cond.code y bytes maxL ret) maxL n = true) (hki : Cond.instanceMethod y ∈ Ts) (hks : Cond.selects y.cls y y ∈ Ts) (hx9 : x < 999) (hq : cl[x]? = some q) (hqy : q.1 = y.cls) (hg : so_get h (b / 4) = some (x, nf, N)) (hn : as.length = n) (hb : so_ref b = true) (hR : d + 11 ≤ R.frames ∧ 60 * d + 260 ≤ R.locals) (hl : so_lh f ls nL lv) (hd : decode cc pc = .ok (.invokevirtual j, 3)) (h4 : so_ct st ≤ 8) (hf : cells + mc ≤ R.cells ∧ slots + ms ≤ R.slots)
    (hB : ∀ w ∈ Bs, so_bw w = true) (hr : so_rel D cl base scr f h s H) (hwd : so_wd D cl base Bs strs s s.heap) (hS : va_S (fun q => base ≤ q) s.heap H locs) :
    vx_Run p l e R s m args below meth c H locs cells slots mc ms (F0 m pc ls (so_ms f ((b :: as).reverse ++ st))) (so_ms f st) (so_Qc D cl base scr f (so_hlen h) r h' (so_ms f (b :: as)).toArray) (so_XC D cl base scr f (so_hlen h) r h') (fun q => base ≤ q) := by
  obtain ⟨w1, w2, w3, hy, hm⟩ := so_cky_at hk
  have hT : GoodIn Ts (wsV own j y.cls y (Cond.code y bytes maxL ret :: Ts)) := by
    intro w hw
    have : w ∈ Ts := by
      unfold wsV at hw
      simp only [List.cons_append, List.nil_append, List.mem_cons] at hw
      rcases hw with rfl | rfl | rfl | rfl | rfl | hw
      · exact w1
      · exact hki
      · exact hks
      · exact w2
      · exact w3
      · exact hw
    exact hG w this
  have hc := so_cats2 f st
  have hp := sc_pre hB hr hwd hS (b :: as)
  rw [so_ms_c1 f b as hb] at hp ⊢
  obtain ⟨ho, -, -⟩ := hr.2.1 _ _ (so_at_rel hr hg)
  obtain ⟨q', hq', -, cell, g1, g2, g3, -⟩ := ho.1 hx9
  cases Option.some.inj (hq.symm.trans hq')
  obtain ⟨-, hfc, -⟩ := hwd.1.1 x q hq
  rw [hqy] at hfc
  exact vx_runV S hM (cwV n S.2.2.2.2 hT rfl rfl rfl ⟨rfl, hy⟩ ⟨by show d + 10 + 1 ≤ _; omega, by show 8 + (maxL + 11) + (60 * d + 200) ≤ _; omega⟩) ⟨hp.1, ⟨cell, g1, by rw [g3]; rfl, by rw [g2]; exact hfc⟩, hp.2⟩ rfl (by unfold so_ms; rw [List.length_map]; exact hn) hl.1 (by rw [← so_ms_app1 f b as st hb]) (by show 2 * 0 + _ ≤ 8; omega) hd hf
end SMG
