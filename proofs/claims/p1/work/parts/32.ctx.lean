/-! ===== words by their places; the checks of one method put together ===== -/
section SMX
def so_Ts : List Cond := Cond.code x code 7 ret :: (k2_sels lw_privs ++ tables_1.filter so_gw)
def so_Bs : List Cond := tables_1.filter so_bw ++ [Cond.castable (so_ex 0) (so_ex 0), Cond.castable (so_ex 1) (so_ex 1), Cond.castable (so_ex 2) (so_ex 2)]
theorem so_Bs_bw : ∀ w ∈ so_Bs, so_bw w = true := by
  intro w hw
  rcases List.mem_append.mp hw with hw | hw
  · exact (List.mem_filter.mp hw).2
  · simp only [List.mem_cons, List.not_mem_nil, or_false] at hw
    rcases hw with rfl | rfl | rfl <;> rfl
theorem so_Ts_good : GoodIn so_Ts so_Ts := by
  intro w hw
  refine ⟨hw, ?_⟩
  rcases List.mem_cons.mp hw with rfl | hw
  · exact Or.inl rfl
  rcases List.mem_append.mp hw with hw | hw
  · obtain ⟨q, -, rfl⟩ := List.mem_map.mp hw
    exact Or.inl rfl
  · exact (so_gw_good w hw).2
theorem so_Ts_tbl : ∀ w ∈ so_Ts, w = Cond.code x code 7 ret ∨ w ∈ lw_tbl := by
  intro w hw
  rcases List.mem_cons.mp hw with rfl | hw
  · exact Or.inl rfl
  refine Or.inr ?_
  rcases List.mem_append.mp hw with hw | hw
  · exact List.mem_append_left _ hw
  · exact List.mem_append_right _ (List.mem_filter.mp hw).1
theorem so_tin (ks1 ks2 : List Nat) (h : (so_pick tables_1 ks2).all so_gw = true) : ∀ w ∈ so_pick (k2_sels lw_privs) ks1 ++ so_pick tables_1 ks2, w ∈ so_Ts := by
  intro w hw
  rcases List.mem_append.mp hw with hw | hw
  · exact List.mem_cons_of_mem _ (List.mem_append_left _ (so_pick_mem hw))
  · exact List.mem_cons_of_mem _ (List.mem_append_right _ (List.mem_filter.mpr ⟨so_pick_mem hw, List.all_eq_true.mp h w hw⟩))
theorem so_win {w : Cond} (hw : w ∈ tables_1) (hg : so_gw w = true) : w ∈ so_Ts := List.mem_cons_of_mem _ (List.mem_append_right _ (List.mem_filter.mpr ⟨hw, hg⟩))
theorem so_bin (ks : List Nat) (h : (so_pick tables_1 ks).all so_bw = true) : ∀ w ∈ so_pick tables_1 ks ++ [Cond.castable (so_ex 0) (so_ex 0), Cond.castable (so_ex 1) (so_ex 1), Cond.castable (so_ex 2) (so_ex 2)], w ∈ so_Bs := by
  intro w hw
  rcases List.mem_append.mp hw with hw | hw
  · exact List.mem_append_left _ (List.mem_filter.mpr ⟨so_pick_mem hw, List.all_eq_true.mp h w hw⟩)
  · exact List.mem_append_right _ hw
/-- a class's row -/
theorem so_klq {Ts T1 : List Cond} {q : vw_C} (hT : ∀ w ∈ T1, w ∈ Ts) (h1 : (u_ws q.1 q.2.1 q.2.2).all (fun w => decide (w ∈ T1)) = true) (h2 : (List.range q.2.2).all (fun a => (List.range q.2.2).all (fun b => Nat.beq a b || (q.2.1 a).2.1 != (q.2.1 b).2.1)) = true) (h3 : (List.range q.2.2).all (fun k => (parseFieldDescriptor (q.2.1 k).2.2.1).isSome) = true) :
    (∀ w ∈ u_ws q.1 q.2.1 q.2.2, w ∈ Ts) ∧ (∀ a, a < q.2.2 → ∀ b, b < q.2.2 → a ≠ b → (q.2.1 a).2.1 ≠ (q.2.1 b).2.1) ∧ ∃ ty : Nat → FieldType, ∀ k, k < q.2.2 → parseFieldDescriptor (q.2.1 k).2.2.1 = some (ty k) := by
  refine ⟨fun w hw => hT w (of_decide_eq_true (List.all_eq_true.mp h1 w hw)), fun a ha b hb hab => ?_, fun k => (parseFieldDescriptor (q.2.1 k).2.2.1).getD .int, fun k hk => ?_⟩
  · have h4 := List.all_eq_true.mp (List.all_eq_true.mp h2 a (List.mem_range.mpr ha)) b (List.mem_range.mpr hb)
    rw [Bool.or_eq_true] at h4
    rcases h4 with h4 | h4
    · exact absurd (Nat.eq_of_beq_eq_true h4) hab
    · exact bne_iff_ne.mp h4
  · have h4 := List.all_eq_true.mp h3 k (List.mem_range.mpr hk)
    cases hq : parseFieldDescriptor (q.2.1 k).2.2.1 with
    | none => rw [hq] at h4; cases h4
    | some t => show some t = some ((parseFieldDescriptor (q.2.1 k).2.2.1).getD .int); rw [hq]; rfl
/-- what so_ctx asks of one method -/
def so_pr (mi : Nat → Option so_I) (Ts Bs : List Cond) (cl : List vw_C) (strs : List (String × Nat × String)) (a : Option so_I) (b : Option so_C) (tb : List (Nat × Nat × Nat × Nat)) : Prop := ∀ I cd, a = some I → b = some cd →
  (∀ pc o x y len, cd pc = some (o, x, y, len) → so_eA Ts cl I pc o x y len ∨ so_eR I pc o ∨ so_eT Ts Bs strs I pc o x ∨ so_eC mi Ts Bs cl I pc o x y) ∧ so_okH Ts I.1.cls I.2.2.2.2 tb ∧ plainName I.1.cls = true
theorem so_pr_br {mi : Nat → Option so_I} {Ts Bs : List Cond} {cl : List vw_C} {strs : List (String × Nat × String)} {k n : Nat} {a a' : Option so_I} {b b' : Option so_C} {tb tb' : List (Nat × Nat × Nat × Nat)} (h1 : so_pr mi Ts Bs cl strs a b tb) (h2 : so_pr mi Ts Bs cl strs a' b' tb') : so_pr mi Ts Bs cl strs (so_br k n a a') (so_br k n b b') (so_br k n tb tb') := by
  unfold so_br
  cases Nat.blt k n
  · exact h2
  · exact h1
theorem so_pr_no {mi : Nat → Option so_I} {Ts Bs : List Cond} {cl : List vw_C} {strs : List (String × Nat × String)} {tb : List (Nat × Nat × Nat × Nat)} : so_pr mi Ts Bs cl strs none none tb := fun I cd h => by cases h
/-- the entries from a on, n places -/
theorem so_bS {mi : Nat → Option so_I} {T1 B1 Ts Bs : List Cond} {cl : List vw_C} {strs : List (String × Nat × String)} {I : so_I} {t : so_C} (a n : Nat) (hW : ∀ x J, mi x = some J → so_w0 J ∈ Ts) (hT : ∀ w ∈ T1, w ∈ Ts) (hB : ∀ w ∈ B1, w ∈ Bs) (h : (List.range' a n).all (so_bE mi T1 B1 cl strs I t) = true) :
    ∀ pc, a ≤ pc → pc < a + n → ∀ o x y len, t pc = some (o, x, y, len) → so_eA Ts cl I pc o x y len ∨ so_eR I pc o ∨ so_eT Ts Bs strs I pc o x ∨ so_eC mi Ts Bs cl I pc o x y := by
  intro pc h1 h2 o x y len hE
  have h3 := List.all_eq_true.mp h pc (List.mem_range'_1.mpr ⟨h1, h2⟩)
  refine so_bM (n := pc + 1) (t := fun p => if p = pc then t p else none) hW hT hB (List.all_eq_true.mpr (fun p hp => ?_)) pc o x y len ?_
  · by_cases hp1 : p = pc
    · subst hp1
      unfold so_bE at h3 ⊢
      dsimp only
      rw [if_pos rfl]
      exact h3
    · unfold so_bE
      dsimp only
      rw [if_neg hp1]
  · unfold so_bd so_br
    have : Nat.blt pc (pc + 1) = true := so_blt.mpr (Nat.lt_succ_self pc)
    rw [this]
    dsimp only
    rw [if_pos rfl]
    exact hE
def so_al (mi : Nat → Option so_I) (Ts Bs : List Cond) (cl : List vw_C) (strs : List (String × Nat × String)) (I : so_I) (t : so_C) (a b : Nat) : Prop := ∀ pc, a ≤ pc → pc < b → ∀ o x y len, t pc = some (o, x, y, len) → so_eA Ts cl I pc o x y len ∨ so_eR I pc o ∨ so_eT Ts Bs strs I pc o x ∨ so_eC mi Ts Bs cl I pc o x y
theorem so_al_app {mi : Nat → Option so_I} {Ts Bs : List Cond} {cl : List vw_C} {strs : List (String × Nat × String)} {I : so_I} {t : so_C} {a b c : Nat} (h1 : so_al mi Ts Bs cl strs I t a b) (h2 : so_al mi Ts Bs cl strs I t b c) : so_al mi Ts Bs cl strs I t a c := by
  intro pc ha hc
  by_cases hb : pc < b
  · exact h1 pc ha hb
  · exact h2 pc (by omega) hc
theorem so_al_of {mi : Nat → Option so_I} {Ts Bs : List Cond} {cl : List vw_C} {strs : List (String × Nat × String)} {I : so_I} {t : so_C} {n : Nat} (h : so_al mi Ts Bs cl strs I (so_bd n t) 0 n) : ∀ pc o x y len, so_bd n t pc = some (o, x, y, len) → so_eA Ts cl I pc o x y len ∨ so_eR I pc o ∨ so_eT Ts Bs strs I pc o x ∨ so_eC mi Ts Bs cl I pc o x y := by
  intro pc o x y len hE
  exact h pc (Nat.zero_le _) (so_bd_at hE).1 o x y len hE
theorem so_pr_I {mi : Nat → Option so_I} {Ts Bs : List Cond} {cl : List vw_C} {strs : List (String × Nat × String)} {I : so_I} {cd : so_C} {n : Nat} {t : so_C} (hcd : cd = so_bd n t) (hp : plainName I.1.cls = true) (hh : I.2.2.2.2 = []) (h : so_al mi Ts Bs cl strs I cd 0 n) : so_pr mi Ts Bs cl strs (some I) (some cd) [] := by
  intro I1 cd1 h1 h2
  cases h1
  cases h2
  subst hcd
  exact ⟨so_al_of h, ⟨[], by rw [hh]; rfl, rfl, fun z hz => by cases hz⟩, hp⟩
def so_bH (T1 : List Cond) (own : String) (zs : List ((Nat × Nat × Nat × Nat) × Nat)) : Bool := zs.all (fun z => !(Nat.beq z.1.2.2.2 0) && Nat.blt z.2 3 && decide (Cond.classLink own z.1.2.2.2 (so_ex z.2) ∈ T1))
theorem so_pr_H {mi : Nat → Option so_I} {T1 Ts Bs : List Cond} {cl : List vw_C} {strs : List (String × Nat × String)} {I : so_I} {cd : so_C} {n : Nat} {t : so_C} (zs : List ((Nat × Nat × Nat × Nat) × Nat)) (hcd : cd = so_bd n t) (hp : plainName I.1.cls = true) (hh : I.2.2.2.2 = zs.map (fun z => z.1)) (hT : ∀ w ∈ T1, w ∈ Ts) (hz : so_bH T1 I.1.cls zs = true) (h : so_al mi Ts Bs cl strs I cd 0 n) : so_pr mi Ts Bs cl strs (some I) (some cd) (zs.map (fun z => (z.1.1, z.1.2.1, z.1.2.2.1, z.2))) := by
  intro I1 cd1 h1 h2
  cases h1
  cases h2
  subst hcd
  refine ⟨so_al_of h, ⟨zs, hh, rfl, fun z hz1 => ?_⟩, hp⟩
  have h3 := List.all_eq_true.mp hz z hz1
  simp only [Bool.and_eq_true, Bool.not_eq_true'] at h3
  refine ⟨fun h4 => ?_, so_blt.mp h3.1.2, hT _ (of_decide_eq_true h3.2)⟩
  rw [h4] at h3
  exact absurd h3.1.1 (by decide)
end SMX

def so_f0 (k : Nat) : String × String × String × Bool := (([("SequentMill$Handles", "mostSymbols", "I", true), ("SequentMill$Handles", "things", "LSequentMill$Row;", true), ("SequentMill$Handles", "symbols", "I", false)] : List (String × String × String × Bool))[k]?).getD ("", "", "", false)
def so_f1 (k : Nat) : String × String × String × Bool := (([("SequentMill$Logic", "types", "LSequentMill$Types;", true), ("SequentMill$Logic", "terms", "LSequentMill$Terms;", true), ("SequentMill$Logic", "rewriting", "LSequentMill$Rewriting;", true)] : List (String × String × String × Bool))[k]?).getD ("", "", "", false)
def so_f2 (k : Nat) : String × String × String × Bool := (([("SequentMill$Rewriting", "types", "LSequentMill$Types;", true), ("SequentMill$Rewriting", "terms", "LSequentMill$Terms;", true), ("SequentMill$Rewriting", "kind", "I", false), ("SequentMill$Rewriting", "free", "I", false), ("SequentMill$Rewriting", "instead", "I", false), ("SequentMill$Rewriting", "firstVariable", "I", false), ("SequentMill$Rewriting", "firstType", "I", false), ("SequentMill$Rewriting", "secondVariable", "I", false), ("SequentMill$Rewriting", "secondType", "I", false)] : List (String × String × String × Bool))[k]?).getD ("", "", "", false)
def so_f3 (k : Nat) : String × String × String × Bool := (([("SequentMill$Row", "items", "[I", false), ("SequentMill$Row", "count", "I", false)] : List (String × String × String × Bool))[k]?).getD ("", "", "", false)
def so_f4 (k : Nat) : String × String × String × Bool := (([("SequentMill$Sequents", "terms", "LSequentMill$Store;", true), ("SequentMill$Sequents", "conclusions", "LSequentMill$Row;", true), ("SequentMill$Sequents", "hypothesisStarts", "LSequentMill$Row;", true), ("SequentMill$Sequents", "hypothesisCounts", "LSequentMill$Row;", true), ("SequentMill$Sequents", "hypothesisPool", "LSequentMill$Row;", true), ("SequentMill$Sequents", "tracedBefore", "LSequentMill$Row;", true), ("SequentMill$Sequents", "typesBefore", "LSequentMill$Row;", true), ("SequentMill$Sequents", "termsBefore", "LSequentMill$Row;", true), ("SequentMill$Sequents", "symbolsMade", "I", false), ("SequentMill$Sequents", "lasting", "I", false), ("SequentMill$Sequents", "draftHypotheses", "LSequentMill$Row;", true), ("SequentMill$Sequents", "draftConclusion", "I", false), ("SequentMill$Sequents", "draftSecond", "I", false), ("SequentMill$Sequents", "draftSymbols", "I", false), ("SequentMill$Sequents", "refused", "Z", false)] : List (String × String × String × Bool))[k]?).getD ("", "", "", false)
def so_f5 (k : Nat) : String × String × String × Bool := (([("SequentMill$Store", "mostSymbols", "I", true), ("SequentMill$Store", "mostHeight", "I", true), ("SequentMill$Store", "most", "I", true), ("SequentMill$Store", "heads", "[I", true), ("SequentMill$Store", "signs", "[I", false), ("SequentMill$Store", "lefts", "[I", false), ("SequentMill$Store", "rights", "[I", false), ("SequentMill$Store", "writtenTypes", "[I", false), ("SequentMill$Store", "symbols", "[I", false), ("SequentMill$Store", "heights", "[I", false), ("SequentMill$Store", "nexts", "[I", false), ("SequentMill$Store", "entries", "[I", false), ("SequentMill$Store", "stamps", "[I", false), ("SequentMill$Store", "memos", "[I", false), ("SequentMill$Store", "parts", "LSequentMill$Row;", true), ("SequentMill$Store", "count", "I", false), ("SequentMill$Store", "settled", "I", false), ("SequentMill$Store", "round", "I", false)] : List (String × String × String × Bool))[k]?).getD ("", "", "", false)
def so_f6 (k : Nat) : String × String × String × Bool := (([("SequentMill$Terms", "store", "LSequentMill$Store;", true), ("SequentMill$Terms", "types", "LSequentMill$Types;", true), ("SequentMill$Terms", "constantTypes", "LSequentMill$Row;", true), ("SequentMill$Terms", "settledConstants", "I", false)] : List (String × String × String × Bool))[k]?).getD ("", "", "", false)
def so_f7 (k : Nat) : String × String × String × Bool := (([("SequentMill$Trace", "types", "LSequentMill$Store;", true), ("SequentMill$Trace", "terms", "LSequentMill$Store;", true), ("SequentMill$Trace", "numbers", "LSequentMill$Row;", true), ("SequentMill$Trace", "typeOrder", "LSequentMill$Row;", true), ("SequentMill$Trace", "termOrder", "LSequentMill$Row;", true), ("SequentMill$Trace", "settledNumbers", "I", false), ("SequentMill$Trace", "settledTypes", "I", false), ("SequentMill$Trace", "settledTerms", "I", false), ("SequentMill$Trace", "full", "Z", false)] : List (String × String × String × Bool))[k]?).getD ("", "", "", false)
def so_f8 (k : Nat) : String × String × String × Bool := (([("SequentMill$Types", "store", "LSequentMill$Store;", true), ("SequentMill$Types", "takes", "LSequentMill$Row;", true), ("SequentMill$Types", "settledConstructors", "I", false), ("SequentMill$Types", "truths", "I", true)] : List (String × String × String × Bool))[k]?).getD ("", "", "", false)
def so_f9 (k : Nat) : String × String × String × Bool := (([("SequentMill", "types", "LSequentMill$Types;", true), ("SequentMill", "terms", "LSequentMill$Terms;", true), ("SequentMill", "rewriting", "LSequentMill$Rewriting;", true), ("SequentMill", "logic", "LSequentMill$Logic;", true), ("SequentMill", "trace", "LSequentMill$Trace;", true), ("SequentMill", "sequents", "LSequentMill$Sequents;", true), ("SequentMill", "typeHandles", "LSequentMill$Handles;", true), ("SequentMill", "termHandles", "LSequentMill$Handles;", true)] : List (String × String × String × Bool))[k]?).getD ("", "", "", false)
def so_f10 (k : Nat) : String × String × String × Bool := (([("SequentMillModel", "code", "I", false), ("SequentMillModel", "constructors", "I", false), ("SequentMillModel", "takes", "[I", true), ("SequentMillModel", "types", "I", false), ("SequentMillModel", "maker", "[I", true), ("SequentMillModel", "left", "[I", true), ("SequentMillModel", "right", "[I", true), ("SequentMillModel", "wide", "[I", true), ("SequentMillModel", "high", "[I", true), ("SequentMillModel", "image", "[I", true), ("SequentMillModel", "typeHandles", "I", false), ("SequentMillModel", "typeSymbols", "I", false), ("SequentMillModel", "typeAt", "[I", true), ("SequentMillModel", "constants", "I", false), ("SequentMillModel", "own", "[I", true), ("SequentMillModel", "symbol", "[I", true), ("SequentMillModel", "type", "[I", true), ("SequentMillModel", "terms", "I", false), ("SequentMillModel", "termSymbols", "I", false), ("SequentMillModel", "begin", "[I", true), ("SequentMillModel", "sequents", "I", false), ("SequentMillModel", "sequentSymbols", "I", false), ("SequentMillModel", "keptEnd", "I", false), ("SequentMillModel", "first", "[I", true), ("SequentMillModel", "hypotheses", "[I", true), ("SequentMillModel", "rule", "[I", true), ("SequentMillModel", "traceBefore", "[I", true), ("SequentMillModel", "typesBefore", "[I", true), ("SequentMillModel", "termsBefore", "[I", true), ("SequentMillModel", "at", "I", false), ("SequentMillModel", "over", "Z", false), ("SequentMillModel", "rows", "I", false), ("SequentMillModel", "rowAt", "[I", true), ("SequentMillModel", "traced", "I", false), ("SequentMillModel", "trace", "[I", true), ("SequentMillModel", "typeEntries", "I", false), ("SequentMillModel", "termEntries", "I", false), ("SequentMillModel", "entryOfType", "[I", true), ("SequentMillModel", "typeEntry", "[I", true), ("SequentMillModel", "entryAt", "[I", true), ("SequentMillModel", "ends", "[I", true), ("SequentMillModel", "stack", "[I", true), ("SequentMillModel", "done", "[Z", true), ("SequentMillModel", "becomes", "[I", true), ("SequentMillModel", "one", "[I", true), ("SequentMillModel", "two", "[I", true), ("SequentMillModel", "traceMark", "I", false), ("SequentMillModel", "typeMark", "I", false), ("SequentMillModel", "termMark", "I", false), ("SequentMillModel", "nodeMark", "I", false), ("SequentMillModel", "variable", "[I", true)] : List (String × String × String × Bool))[k]?).getD ("", "", "", false)
def so_rows : List vw_C := [("SequentMill$Handles", so_f0, 3), ("SequentMill$Logic", so_f1, 3), ("SequentMill$Rewriting", so_f2, 9), ("SequentMill$Row", so_f3, 2), ("SequentMill$Sequents", so_f4, 15), ("SequentMill$Store", so_f5, 18), ("SequentMill$Terms", so_f6, 4), ("SequentMill$Trace", so_f7, 9), ("SequentMill$Types", so_f8, 4), ("SequentMill", so_f9, 8), ("SequentMillModel", so_f10, 51)]
def so_strs : List (String × Nat × String) := [("SequentMill", 87, "a type variable is 0 .. 999"), ("SequentMill", 393, "a limit of types"), ("SequentMill", 102, "no such constructor"), ("SequentMill", 360, "no such type"), ("SequentMill", 114, "a free variable is 0 .. 999"), ("SequentMill", 399, "a limit of terms"), ("SequentMill", 132, "no such constant of that type"), ("SequentMill", 365, "no such term"), ("SequentMill", 140, "f is not of functions from x's type"), ("SequentMill", 149, "v is no free variable"), ("SequentMill", 164, "no such symbol"), ("SequentMill", 404, "a limit of sequents"), ("SequentMill", 367, "no such sequent"), ("SequentMill", 202, "not s = t and t = u"), ("SequentMill", 210, "not f = g and x = y with f of functions from x's type"), ("SequentMill", 215, "not s = t and a free variable that is in no hypothesis"), ("SequentMill", 223, "no application of an abstraction to a free variable"), ("SequentMill", 235, "not of truths"), ("SequentMill", 240, "not p = q and p"), ("SequentMill", 248, "not a free variable and a term of its type"), ("SequentMill", 259, "not two type variables with a type for each"), ("SequentMill", 275, "a free variable, or a type variable not in the type"), ("SequentMill", 289, "no P x without hypotheses that a type can be made of"), ("SequentMill", 311, "an axiom is 0 .. 2"), ("SequentMill", 322, "no such hypothesis"), ("SequentMill", 333, "no such number of sequents, or a definition among them"), ("SequentMill", 352, "no such number of the trace")]
def so_i0 : so_I := (⟨"SequentMillModel", "endOf", "(I)I"⟩, prog_12_method_14_code, 4, (Option.some Jvm.ClassFile.FieldType.int), [])
def so_i1 : so_I := (⟨"SequentMillModel", "write", "(II)V"⟩, prog_12_method_19_code, 3, (Option.none : Option Jvm.ClassFile.FieldType), [])
def so_i2 : so_I := (⟨"SequentMillModel", "bind", "(II)V"⟩, prog_12_method_23_code, 6, (Option.none : Option Jvm.ClassFile.FieldType), [])
def so_i3 : so_I := (⟨"SequentMillModel", "copy", "(I)V"⟩, prog_12_method_20_code, 4, (Option.none : Option Jvm.ClassFile.FieldType), [])
def so_i4 : so_I := (⟨"SequentMillModel", "node", "(III)I"⟩, prog_12_method_5_code, 7, (Option.some Jvm.ClassFile.FieldType.int), [])
def so_i5 : so_I := (⟨"SequentMill$Store", "make", "(IIII)I"⟩, prog_7_method_10_code, 9, (Option.some Jvm.ClassFile.FieldType.int), [])
def so_i7 : so_I := (⟨"java/util/Arrays", "fill", "([II)V"⟩, prog_23_method_103_code, 4, (Option.none : Option Jvm.ClassFile.FieldType), [])
def so_i8 : so_I := (⟨"SequentMill", "<init>", "()V"⟩, prog_1_method_1_code, 1, (Option.none : Option Jvm.ClassFile.FieldType), [])
def so_i9 : so_I := (⟨"SequentMill", "typeVariable", "(I)I"⟩, prog_1_method_2_code, 2, (Option.some Jvm.ClassFile.FieldType.int), [])
def so_i10 : so_I := (⟨"SequentMill", "type", "(III)I"⟩, prog_1_method_3_code, 7, (Option.some Jvm.ClassFile.FieldType.int), [])
def so_i11 : so_I := (⟨"SequentMill", "free", "(II)I"⟩, prog_1_method_4_code, 4, (Option.some Jvm.ClassFile.FieldType.int), [])
def so_i12 : so_I := (⟨"SequentMill", "constant", "(II)I"⟩, prog_1_method_5_code, 4, (Option.some Jvm.ClassFile.FieldType.int), [])
def so_i13 : so_I := (⟨"SequentMill", "apply", "(II)I"⟩, prog_1_method_6_code, 5, (Option.some Jvm.ClassFile.FieldType.int), [])
def so_i14 : so_I := (⟨"SequentMill", "abstraction", "(II)I"⟩, prog_1_method_7_code, 5, (Option.some Jvm.ClassFile.FieldType.int), [])
def so_i15 : so_I := (⟨"SequentMill", "typeOf", "(I)I"⟩, prog_1_method_8_code, 2, (Option.some Jvm.ClassFile.FieldType.int), [])
def so_i16 : so_I := (⟨"SequentMill", "symbol", "(II)I"⟩, prog_1_method_9_code, 4, (Option.some Jvm.ClassFile.FieldType.int), [])
def so_i17 : so_I := (⟨"SequentMill", "same", "(II)Z"⟩, prog_1_method_10_code, 3, (Option.some Jvm.ClassFile.FieldType.boolean), [])
def so_i18 : so_I := (⟨"SequentMill", "refl", "(I)I"⟩, prog_1_method_11_code, 3, (Option.some Jvm.ClassFile.FieldType.int), [])
def so_i19 : so_I := (⟨"SequentMill", "trans", "(II)I"⟩, prog_1_method_12_code, 5, (Option.some Jvm.ClassFile.FieldType.int), [])
def so_i20 : so_I := (⟨"SequentMill", "applied", "(II)I"⟩, prog_1_method_13_code, 7, (Option.some Jvm.ClassFile.FieldType.int), [])
def so_i21 : so_I := (⟨"SequentMill", "abstracted", "(II)I"⟩, prog_1_method_14_code, 7, (Option.some Jvm.ClassFile.FieldType.int), [])
def so_i22 : so_I := (⟨"SequentMill", "beta", "(I)I"⟩, prog_1_method_15_code, 3, (Option.some Jvm.ClassFile.FieldType.int), [])
def so_i23 : so_I := (⟨"SequentMill", "assume", "(I)I"⟩, prog_1_method_16_code, 3, (Option.some Jvm.ClassFile.FieldType.int), [])
def so_i24 : so_I := (⟨"SequentMill", "equal", "(II)I"⟩, prog_1_method_17_code, 5, (Option.some Jvm.ClassFile.FieldType.int), [])
def so_i25 : so_I := (⟨"SequentMill", "antisym", "(II)I"⟩, prog_1_method_18_code, 5, (Option.some Jvm.ClassFile.FieldType.int), [])
def so_i26 : so_I := (⟨"SequentMill", "put", "(III)I"⟩, prog_1_method_19_code, 8, (Option.some Jvm.ClassFile.FieldType.int), [])
def so_i27 : so_I := (⟨"SequentMill", "retype", "(IIIII)I"⟩, prog_1_method_20_code, 8, (Option.some Jvm.ClassFile.FieldType.int), [])
def so_i28 : so_I := (⟨"SequentMill", "define", "(I)I"⟩, prog_1_method_21_code, 4, (Option.some Jvm.ClassFile.FieldType.int), [])
def so_i29 : so_I := (⟨"SequentMill", "defineType", "(I)I"⟩, prog_1_method_22_code, 8, (Option.some Jvm.ClassFile.FieldType.int), [])
def so_i30 : so_I := (⟨"SequentMill", "axiom", "(I)I"⟩, prog_1_method_23_code, 2, (Option.some Jvm.ClassFile.FieldType.int), [])
def so_i31 : so_I := (⟨"SequentMill", "conclusion", "(I)I"⟩, prog_1_method_24_code, 2, (Option.some Jvm.ClassFile.FieldType.int), [])
def so_i32 : so_I := (⟨"SequentMill", "hypotheses", "(I)I"⟩, prog_1_method_25_code, 2, (Option.some Jvm.ClassFile.FieldType.int), [])
def so_i33 : so_I := (⟨"SequentMill", "hypothesis", "(II)I"⟩, prog_1_method_26_code, 3, (Option.some Jvm.ClassFile.FieldType.int), [])
def so_i34 : so_I := (⟨"SequentMill", "size", "()I"⟩, prog_1_method_27_code, 1, (Option.some Jvm.ClassFile.FieldType.int), [])
def so_i35 : so_I := (⟨"SequentMill", "cut", "(I)V"⟩, prog_1_method_28_code, 2, (Option.none : Option Jvm.ClassFile.FieldType), [])
def so_i36 : so_I := (⟨"SequentMill", "traced", "()I"⟩, prog_1_method_29_code, 1, (Option.some Jvm.ClassFile.FieldType.int), [])
def so_i37 : so_I := (⟨"SequentMill", "trace", "(I)I"⟩, prog_1_method_30_code, 2, (Option.some Jvm.ClassFile.FieldType.int), [])
def so_i38 : so_I := (⟨"SequentMill", "isNoName", "(I)Z"⟩, prog_1_method_31_code, 1, (Option.some Jvm.ClassFile.FieldType.boolean), [])
def so_i39 : so_I := (⟨"SequentMill", "typeAt", "(I)I"⟩, prog_1_method_32_code, 2, (Option.some Jvm.ClassFile.FieldType.int), [])
def so_i40 : so_I := (⟨"SequentMill", "termAt", "(I)I"⟩, prog_1_method_33_code, 2, (Option.some Jvm.ClassFile.FieldType.int), [])
def so_i41 : so_I := (⟨"SequentMill", "requireSequent", "(I)V"⟩, prog_1_method_34_code, 2, (Option.none : Option Jvm.ClassFile.FieldType), [])
def so_i42 : so_I := (⟨"SequentMill", "conclusionAt", "(I)I"⟩, prog_1_method_35_code, 2, (Option.some Jvm.ClassFile.FieldType.int), [])
def so_i47 : so_I := (⟨"SequentMill", "answerType", "(I)I"⟩, prog_1_method_40_code, 2, (Option.some Jvm.ClassFile.FieldType.int), [])
def so_i49 : so_I := (⟨"SequentMill", "finish", "(Z)I"⟩, prog_1_method_42_code, 3, (Option.some Jvm.ClassFile.FieldType.int), [])
def so_i50 : so_I := (⟨"SequentMill", "settle", "()V"⟩, prog_1_method_43_code, 1, (Option.none : Option Jvm.ClassFile.FieldType), [])
def so_i52 : so_I := (⟨"SequentMillModel", "<init>", "()V"⟩, prog_12_method_1_code, 3, (Option.none : Option Jvm.ClassFile.FieldType), [])
def so_i53 : so_I := (⟨"SequentMillModel", "thrown", "()I"⟩, prog_12_method_2_code, 1, (Option.some Jvm.ClassFile.FieldType.int), [])
def so_i55 : so_I := (⟨"SequentMillModel", "outside", "(II)Z"⟩, prog_12_method_4_code, 2, (Option.some Jvm.ClassFile.FieldType.boolean), [])
def so_i56 : so_I := (⟨"SequentMillModel", "function", "(II)I"⟩, prog_12_method_6_code, 3, (Option.some Jvm.ClassFile.FieldType.int), [])
def so_i57 : so_I := (⟨"SequentMillModel", "truths", "()I"⟩, prog_12_method_7_code, 1, (Option.some Jvm.ClassFile.FieldType.int), [])
def so_i58 : so_I := (⟨"SequentMillModel", "isSmall", "(I)Z"⟩, prog_12_method_8_code, 2, (Option.some Jvm.ClassFile.FieldType.boolean), [])
def so_i59 : so_I := (⟨"SequentMillModel", "typesAreGood", "(I)Z"⟩, prog_12_method_9_code, 4, (Option.some Jvm.ClassFile.FieldType.boolean), [])
def so_i60 : so_I := (⟨"SequentMillModel", "keepType", "(III)I"⟩, prog_12_method_10_code, 4, (Option.some Jvm.ClassFile.FieldType.int), [])
def so_i61 : so_I := (⟨"SequentMillModel", "typeVariable", "(I)I"⟩, prog_12_method_11_code, 3, (Option.some Jvm.ClassFile.FieldType.int), [])
def so_i62 : so_I := (⟨"SequentMillModel", "type", "(III)I"⟩, prog_12_method_12_code, 5, (Option.some Jvm.ClassFile.FieldType.int), [])
def so_i64 : so_I := (⟨"SequentMillModel", "lengthOf", "(I)I"⟩, prog_12_method_15_code, 2, (Option.some Jvm.ClassFile.FieldType.int), [])
def so_i66 : so_I := (⟨"SequentMillModel", "heightOf", "(I)I"⟩, prog_12_method_17_code, 6, (Option.some Jvm.ClassFile.FieldType.int), [])
def so_i67 : so_I := (⟨"SequentMillModel", "startWork", "()V"⟩, prog_12_method_18_code, 1, (Option.none : Option Jvm.ClassFile.FieldType), [])
def so_i69 : so_I := (⟨"SequentMillModel", "isVariable", "(II)Z"⟩, prog_12_method_22_code, 3, (Option.some Jvm.ClassFile.FieldType.boolean), [])
def so_i73 : so_I := (⟨"SequentMillModel", "writeEquality", "(I)V"⟩, prog_12_method_27_code, 3, (Option.none : Option Jvm.ClassFile.FieldType), [])
def so_i76 : so_I := (⟨"SequentMillModel", "isTerm", "(I)Z"⟩, prog_12_method_30_code, 2, (Option.some Jvm.ClassFile.FieldType.boolean), [])
def so_i78 : so_I := (⟨"SequentMillModel", "free", "(II)I"⟩, prog_12_method_32_code, 3, (Option.some Jvm.ClassFile.FieldType.int), [])
def so_i79 : so_I := (⟨"SequentMillModel", "constant", "(II)I"⟩, prog_12_method_33_code, 3, (Option.some Jvm.ClassFile.FieldType.int), [])
def so_i81 : so_I := (⟨"SequentMillModel", "apply", "(II)I"⟩, prog_12_method_35_code, 3, (Option.some Jvm.ClassFile.FieldType.int), [])
def so_i82 : so_I := (⟨"SequentMillModel", "abstraction", "(II)I"⟩, prog_12_method_36_code, 4, (Option.some Jvm.ClassFile.FieldType.int), [])
def so_i83 : so_I := (⟨"SequentMillModel", "typeOf", "(I)I"⟩, prog_12_method_37_code, 2, (Option.some Jvm.ClassFile.FieldType.int), [])
def so_i84 : so_I := (⟨"SequentMillModel", "symbol", "(II)I"⟩, prog_12_method_38_code, 3, (Option.some Jvm.ClassFile.FieldType.int), [])
def so_i85 : so_I := (⟨"SequentMillModel", "same", "(II)Z"⟩, prog_12_method_39_code, 3, (Option.some Jvm.ClassFile.FieldType.boolean), [])
def so_i86 : so_I := (⟨"SequentMillModel", "note", "(I)V"⟩, prog_12_method_40_code, 2, (Option.none : Option Jvm.ClassFile.FieldType), [])
def so_i91 : so_I := (⟨"SequentMillModel", "beginStep", "()V"⟩, prog_12_method_45_code, 1, (Option.none : Option Jvm.ClassFile.FieldType), [])
def so_i93 : so_I := (⟨"SequentMillModel", "isSequent", "(I)Z"⟩, prog_12_method_47_code, 2, (Option.some Jvm.ClassFile.FieldType.boolean), [])
def so_i99 : so_I := (⟨"SequentMillModel", "rowsAreGood", "()Z"⟩, prog_12_method_53_code, 3, (Option.some Jvm.ClassFile.FieldType.boolean), [])
def so_i100 : so_I := (⟨"SequentMillModel", "keep", "(I)Z"⟩, prog_12_method_54_code, 3, (Option.some Jvm.ClassFile.FieldType.boolean), [])
def so_i101 : so_I := (⟨"SequentMillModel", "finish", "(II)I"⟩, prog_12_method_55_code, 3, (Option.some Jvm.ClassFile.FieldType.int), [])
def so_i102 : so_I := (⟨"SequentMillModel", "refl", "(I)I"⟩, prog_12_method_56_code, 3, (Option.some Jvm.ClassFile.FieldType.int), [])
def so_i104 : so_I := (⟨"SequentMillModel", "trans", "(II)I"⟩, prog_12_method_58_code, 5, (Option.some Jvm.ClassFile.FieldType.int), [])
def so_i105 : so_I := (⟨"SequentMillModel", "applied", "(II)I"⟩, prog_12_method_59_code, 6, (Option.some Jvm.ClassFile.FieldType.int), [])
def so_i106 : so_I := (⟨"SequentMillModel", "abstracted", "(II)I"⟩, prog_12_method_60_code, 8, (Option.some Jvm.ClassFile.FieldType.int), [])
def so_i107 : so_I := (⟨"SequentMillModel", "beta", "(I)I"⟩, prog_12_method_61_code, 4, (Option.some Jvm.ClassFile.FieldType.int), [])
def so_i108 : so_I := (⟨"SequentMillModel", "assume", "(I)I"⟩, prog_12_method_62_code, 3, (Option.some Jvm.ClassFile.FieldType.int), [])
def so_i109 : so_I := (⟨"SequentMillModel", "equal", "(II)I"⟩, prog_12_method_63_code, 5, (Option.some Jvm.ClassFile.FieldType.int), [])
def so_i110 : so_I := (⟨"SequentMillModel", "antisym", "(II)I"⟩, prog_12_method_64_code, 5, (Option.some Jvm.ClassFile.FieldType.int), [])
def so_i111 : so_I := (⟨"SequentMillModel", "put", "(III)I"⟩, prog_12_method_65_code, 7, (Option.some Jvm.ClassFile.FieldType.int), [])
def so_i114 : so_I := (⟨"SequentMillModel", "retype", "(IIIII)I"⟩, prog_12_method_68_code, 15, (Option.some Jvm.ClassFile.FieldType.int), [])
def so_i118 : so_I := (⟨"SequentMillModel", "define", "(I)I"⟩, prog_12_method_72_code, 6, (Option.some Jvm.ClassFile.FieldType.int), [])
def so_i120 : so_I := (⟨"SequentMillModel", "defineType", "(I)I"⟩, prog_12_method_74_code, 13, (Option.some Jvm.ClassFile.FieldType.int), [])
def so_i121 : so_I := (⟨"SequentMillModel", "variableRow", "(II)I"⟩, prog_12_method_75_code, 4, (Option.some Jvm.ClassFile.FieldType.int), [])
def so_i122 : so_I := (⟨"SequentMillModel", "applyRow", "(II)I"⟩, prog_12_method_76_code, 4, (Option.some Jvm.ClassFile.FieldType.int), [])
def so_i123 : so_I := (⟨"SequentMillModel", "abstractRow", "(II)I"⟩, prog_12_method_77_code, 4, (Option.some Jvm.ClassFile.FieldType.int), [])
def so_i124 : so_I := (⟨"SequentMillModel", "equalRow", "(II)I"⟩, prog_12_method_78_code, 4, (Option.some Jvm.ClassFile.FieldType.int), [])
def so_i125 : so_I := (⟨"SequentMillModel", "truthRow", "()I"⟩, prog_12_method_79_code, 3, (Option.some Jvm.ClassFile.FieldType.int), [])
def so_i126 : so_I := (⟨"SequentMillModel", "andRow", "(II)I"⟩, prog_12_method_80_code, 7, (Option.some Jvm.ClassFile.FieldType.int), [])
def so_i127 : so_I := (⟨"SequentMillModel", "impliesRow", "(II)I"⟩, prog_12_method_81_code, 3, (Option.some Jvm.ClassFile.FieldType.int), [])
def so_i128 : so_I := (⟨"SequentMillModel", "allRow", "(II)I"⟩, prog_12_method_82_code, 4, (Option.some Jvm.ClassFile.FieldType.int), [])
def so_i129 : so_I := (⟨"SequentMillModel", "choiceOf", "(I)I"⟩, prog_12_method_83_code, 3, (Option.some Jvm.ClassFile.FieldType.int), [])
def so_i130 : so_I := (⟨"SequentMillModel", "someRow", "(II)I"⟩, prog_12_method_84_code, 5, (Option.some Jvm.ClassFile.FieldType.int), [])
def so_i131 : so_I := (⟨"SequentMillModel", "notRow", "(I)I"⟩, prog_12_method_85_code, 3, (Option.some Jvm.ClassFile.FieldType.int), [])
def so_i132 : so_I := (⟨"SequentMillModel", "extensionality", "()I"⟩, prog_12_method_86_code, 4, (Option.some Jvm.ClassFile.FieldType.int), [])
def so_i133 : so_I := (⟨"SequentMillModel", "choiceRow", "()I"⟩, prog_12_method_87_code, 6, (Option.some Jvm.ClassFile.FieldType.int), [])
def so_i134 : so_I := (⟨"SequentMillModel", "infinityRow", "()I"⟩, prog_12_method_88_code, 9, (Option.some Jvm.ClassFile.FieldType.int), [])
def so_i135 : so_I := (⟨"SequentMillModel", "axiom", "(I)I"⟩, prog_12_method_89_code, 5, (Option.some Jvm.ClassFile.FieldType.int), [])
def so_i137 : so_I := (⟨"SequentMillModel", "conclusion", "(I)I"⟩, prog_12_method_91_code, 2, (Option.some Jvm.ClassFile.FieldType.int), [])
def so_i138 : so_I := (⟨"SequentMillModel", "hypotheses", "(I)I"⟩, prog_12_method_92_code, 2, (Option.some Jvm.ClassFile.FieldType.int), [])
def so_i139 : so_I := (⟨"SequentMillModel", "hypothesis", "(II)I"⟩, prog_12_method_93_code, 3, (Option.some Jvm.ClassFile.FieldType.int), [])
def so_i140 : so_I := (⟨"SequentMillModel", "size", "()I"⟩, prog_12_method_94_code, 1, (Option.some Jvm.ClassFile.FieldType.int), [])
def so_i141 : so_I := (⟨"SequentMillModel", "cut", "(I)V"⟩, prog_12_method_95_code, 3, (Option.none : Option Jvm.ClassFile.FieldType), [])
def so_i142 : so_I := (⟨"SequentMillModel", "traced", "()I"⟩, prog_12_method_96_code, 1, (Option.some Jvm.ClassFile.FieldType.int), [])
def so_i143 : so_I := (⟨"SequentMillModel", "trace", "(I)I"⟩, prog_12_method_97_code, 2, (Option.some Jvm.ClassFile.FieldType.int), [])
def so_i144 : so_I := (⟨"SequentMill$Handles", "<init>", "(I)V"⟩, prog_2_method_1_code, 2, (Option.none : Option Jvm.ClassFile.FieldType), [])
def so_i145 : so_I := (⟨"SequentMill$Handles", "has", "(I)Z"⟩, prog_2_method_2_code, 2, (Option.some Jvm.ClassFile.FieldType.boolean), [])
def so_i147 : so_I := (⟨"SequentMill$Handles", "hasRoom", "(I)Z"⟩, prog_2_method_4_code, 2, (Option.some Jvm.ClassFile.FieldType.boolean), [])
def so_i148 : so_I := (⟨"SequentMill$Handles", "add", "(II)I"⟩, prog_2_method_5_code, 3, (Option.some Jvm.ClassFile.FieldType.int), [])
def so_i149 : so_I := (⟨"SequentMill$Logic", "<init>", "(LSequentMill$Types;LSequentMill$Terms;LSequentMill$Rewriting;)V"⟩, prog_3_method_1_code, 4, (Option.none : Option Jvm.ClassFile.FieldType), [])
def so_i150 : so_I := (⟨"SequentMill$Logic", "equation", "(II)I"⟩, prog_3_method_2_code, 3, (Option.some Jvm.ClassFile.FieldType.int), [])
def so_i151 : so_I := (⟨"SequentMill$Logic", "equationOf", "(III)I"⟩, prog_3_method_3_code, 7, (Option.some Jvm.ClassFile.FieldType.int), [])
def so_i154 : so_I := (⟨"SequentMill$Logic", "eta", "()I"⟩, prog_3_method_6_code, 4, (Option.some Jvm.ClassFile.FieldType.int), [])
def so_i155 : so_I := (⟨"SequentMill$Logic", "chosen", "()I"⟩, prog_3_method_7_code, 5, (Option.some Jvm.ClassFile.FieldType.int), [])
def so_i156 : so_I := (⟨"SequentMill$Logic", "infinity", "()I"⟩, prog_3_method_8_code, 14, (Option.some Jvm.ClassFile.FieldType.int), [])
def so_i157 : so_I := (⟨"SequentMill$Logic", "choiceOf", "(II)I"⟩, prog_3_method_9_code, 4, (Option.some Jvm.ClassFile.FieldType.int), [])
def so_i158 : so_I := (⟨"SequentMill$Logic", "identity", "()I"⟩, prog_3_method_10_code, 1, (Option.some Jvm.ClassFile.FieldType.int), [])
def so_i159 : so_I := (⟨"SequentMill$Logic", "truth", "()I"⟩, prog_3_method_11_code, 2, (Option.some Jvm.ClassFile.FieldType.int), [])
def so_i160 : so_I := (⟨"SequentMill$Logic", "and", "(III)I"⟩, prog_3_method_12_code, 9, (Option.some Jvm.ClassFile.FieldType.int), [])
def so_i161 : so_I := (⟨"SequentMill$Logic", "all", "(II)I"⟩, prog_3_method_13_code, 4, (Option.some Jvm.ClassFile.FieldType.int), [])
def so_i162 : so_I := (⟨"SequentMill$Logic", "some", "(I)I"⟩, prog_3_method_14_code, 2, (Option.some Jvm.ClassFile.FieldType.int), [])
def so_i163 : so_I := (⟨"SequentMill$Rewriting", "<init>", "(LSequentMill$Types;LSequentMill$Terms;)V"⟩, prog_4_method_1_code, 3, (Option.none : Option Jvm.ClassFile.FieldType), [])
def so_i164 : so_I := (⟨"SequentMill$Rewriting", "start", "(III)V"⟩, prog_4_method_2_code, 4, (Option.none : Option Jvm.ClassFile.FieldType), [])
def so_i167 : so_I := (⟨"SequentMill$Rewriting", "bound", "(II)I"⟩, prog_4_method_5_code, 3, (Option.some Jvm.ClassFile.FieldType.int), [])
def so_i169 : so_I := (⟨"SequentMill$Rewriting", "changedAt", "(III)I"⟩, prog_4_method_8_code, 10, (Option.some Jvm.ClassFile.FieldType.int), [])
def so_i170 : so_I := (⟨"SequentMill$Rewriting", "changedLeaf", "(IIII)I"⟩, prog_4_method_9_code, 5, (Option.some Jvm.ClassFile.FieldType.int), [])
def so_i171 : so_I := (⟨"SequentMill$Rewriting", "changedType", "(II)I"⟩, prog_4_method_10_code, 9, (Option.some Jvm.ClassFile.FieldType.int), [])
def so_i172 : so_I := (⟨"SequentMill$Row", "<init>", "()V"⟩, prog_5_method_1_code, 1, (Option.none : Option Jvm.ClassFile.FieldType), [])
def so_i173 : so_I := (⟨"SequentMill$Row", "count", "()I"⟩, prog_5_method_2_code, 1, (Option.some Jvm.ClassFile.FieldType.int), [])
def so_i174 : so_I := (⟨"SequentMill$Row", "at", "(I)I"⟩, prog_5_method_3_code, 2, (Option.some Jvm.ClassFile.FieldType.int), [])
def so_i175 : so_I := (⟨"SequentMill$Row", "add", "(I)V"⟩, prog_5_method_4_code, 2, (Option.none : Option Jvm.ClassFile.FieldType), [])
def so_i176 : so_I := (⟨"SequentMill$Row", "keep", "(I)V"⟩, prog_5_method_5_code, 2, (Option.none : Option Jvm.ClassFile.FieldType), [])
def so_i177 : so_I := (⟨"SequentMill$Sequents", "<init>", "(LSequentMill$Store;)V"⟩, prog_6_method_1_code, 2, (Option.none : Option Jvm.ClassFile.FieldType), [])
def so_i178 : so_I := (⟨"SequentMill$Sequents", "count", "()I"⟩, prog_6_method_2_code, 1, (Option.some Jvm.ClassFile.FieldType.int), [])
def so_i179 : so_I := (⟨"SequentMill$Sequents", "lasting", "()I"⟩, prog_6_method_3_code, 1, (Option.some Jvm.ClassFile.FieldType.int), [])
def so_i186 : so_I := (⟨"SequentMill$Sequents", "begin", "()V"⟩, prog_6_method_10_code, 1, (Option.none : Option Jvm.ClassFile.FieldType), [])
def so_i187 : so_I := (⟨"SequentMill$Sequents", "isRefused", "()Z"⟩, prog_6_method_11_code, 1, (Option.some Jvm.ClassFile.FieldType.boolean), [])
def so_i188 : so_I := (⟨"SequentMill$Sequents", "countIn", "(I)V"⟩, prog_6_method_12_code, 2, (Option.none : Option Jvm.ClassFile.FieldType), [])
def so_i192 : so_I := (⟨"SequentMill$Sequents", "conclude", "(I)V"⟩, prog_6_method_16_code, 2, (Option.none : Option Jvm.ClassFile.FieldType), [])
def so_i194 : so_I := (⟨"SequentMill$Sequents", "addDraft", "(ZLSequentMill$Trace;)I"⟩, prog_6_method_18_code, 6, (Option.some Jvm.ClassFile.FieldType.int), [])
def so_i195 : so_I := (⟨"SequentMill$Sequents", "addSequent", "(IILSequentMill$Trace;)V"⟩, prog_6_method_19_code, 4, (Option.none : Option Jvm.ClassFile.FieldType), [])
def so_i197 : so_I := (⟨"SequentMill$Store", "<init>", "(IIII)V"⟩, prog_7_method_1_code, 5, (Option.none : Option Jvm.ClassFile.FieldType), [])
def so_i198 : so_I := (⟨"SequentMill$Store", "sign", "(I)I"⟩, prog_7_method_2_code, 2, (Option.some Jvm.ClassFile.FieldType.int), [])
def so_i199 : so_I := (⟨"SequentMill$Store", "left", "(I)I"⟩, prog_7_method_3_code, 2, (Option.some Jvm.ClassFile.FieldType.int), [])
def so_i200 : so_I := (⟨"SequentMill$Store", "right", "(I)I"⟩, prog_7_method_4_code, 2, (Option.some Jvm.ClassFile.FieldType.int), [])
def so_i201 : so_I := (⟨"SequentMill$Store", "writtenType", "(I)I"⟩, prog_7_method_5_code, 2, (Option.some Jvm.ClassFile.FieldType.int), [])
def so_i202 : so_I := (⟨"SequentMill$Store", "symbolsOf", "(I)I"⟩, prog_7_method_6_code, 2, (Option.some Jvm.ClassFile.FieldType.int), [])
def so_i203 : so_I := (⟨"SequentMill$Store", "heightOf", "(I)I"⟩, prog_7_method_7_code, 2, (Option.some Jvm.ClassFile.FieldType.int), [])
def so_i206 : so_I := (⟨"SequentMill$Store", "placeOf", "(IIII)I"⟩, prog_7_method_11_code, 6, (Option.some Jvm.ClassFile.FieldType.int), [])
def so_i207 : so_I := (⟨"SequentMill$Store", "find", "(IIIII)I"⟩, prog_7_method_12_code, 8, (Option.some Jvm.ClassFile.FieldType.int), [])
def so_i208 : so_I := (⟨"SequentMill$Store", "grow", "()V"⟩, prog_7_method_13_code, 2, (Option.none : Option Jvm.ClassFile.FieldType), [])
def so_i209 : so_I := (⟨"SequentMill$Store", "settle", "()V"⟩, prog_7_method_14_code, 1, (Option.none : Option Jvm.ClassFile.FieldType), [])
def so_i211 : so_I := (⟨"SequentMill$Store", "startRound", "()V"⟩, prog_7_method_16_code, 1, (Option.none : Option Jvm.ClassFile.FieldType), [])
def so_i212 : so_I := (⟨"SequentMill$Store", "remembered", "(II)I"⟩, prog_7_method_17_code, 4, (Option.some Jvm.ClassFile.FieldType.int), [])
def so_i213 : so_I := (⟨"SequentMill$Store", "remember", "(III)V"⟩, prog_7_method_18_code, 4, (Option.none : Option Jvm.ClassFile.FieldType), [])
def so_i218 : so_I := (⟨"SequentMill$Terms", "<init>", "(LSequentMill$Types;)V"⟩, prog_8_method_1_code, 4, (Option.none : Option Jvm.ClassFile.FieldType), [])
def so_i222 : so_I := (⟨"SequentMill$Terms", "leaf", "(III)I"⟩, prog_8_method_5_code, 4, (Option.some Jvm.ClassFile.FieldType.int), [])
def so_i223 : so_I := (⟨"SequentMill$Terms", "application", "(II)I"⟩, prog_8_method_6_code, 4, (Option.some Jvm.ClassFile.FieldType.int), [])
def so_i224 : so_I := (⟨"SequentMill$Terms", "applicationOf", "(III)I"⟩, prog_8_method_7_code, 4, (Option.some Jvm.ClassFile.FieldType.int), [])
def so_i225 : so_I := (⟨"SequentMill$Terms", "abstractionOver", "(II)I"⟩, prog_8_method_8_code, 3, (Option.some Jvm.ClassFile.FieldType.int), [])
def so_i226 : so_I := (⟨"SequentMill$Terms", "isTypeInLimits", "(II)Z"⟩, prog_8_method_9_code, 8, (Option.some Jvm.ClassFile.FieldType.boolean), [])
def so_i227 : so_I := (⟨"SequentMill$Terms", "ownType", "(I)I"⟩, prog_8_method_10_code, 2, (Option.some Jvm.ClassFile.FieldType.int), [])
def so_i228 : so_I := (⟨"SequentMill$Terms", "ownTypeAt", "(II)I"⟩, prog_8_method_11_code, 4, (Option.some Jvm.ClassFile.FieldType.int), [])
def so_i244 : so_I := (⟨"SequentMill$Terms", "settle", "()V"⟩, prog_8_method_27_code, 1, (Option.none : Option Jvm.ClassFile.FieldType), [])
def so_i246 : so_I := (⟨"SequentMill$Trace", "<init>", "(LSequentMill$Store;LSequentMill$Store;)V"⟩, prog_9_method_1_code, 3, (Option.none : Option Jvm.ClassFile.FieldType), [])
def so_i247 : so_I := (⟨"SequentMill$Trace", "length", "()I"⟩, prog_9_method_2_code, 1, (Option.some Jvm.ClassFile.FieldType.int), [])
def so_i249 : so_I := (⟨"SequentMill$Trace", "isFull", "()Z"⟩, prog_9_method_4_code, 1, (Option.some Jvm.ClassFile.FieldType.boolean), [])
def so_i250 : so_I := (⟨"SequentMill$Trace", "write", "(I)V"⟩, prog_9_method_5_code, 2, (Option.none : Option Jvm.ClassFile.FieldType), [])
def so_i251 : so_I := (⟨"SequentMill$Trace", "step", "(II)V"⟩, prog_9_method_6_code, 3, (Option.none : Option Jvm.ClassFile.FieldType), [])
def so_i259 : so_I := (⟨"SequentMill$Trace", "settledNumbers", "()I"⟩, prog_9_method_14_code, 1, (Option.some Jvm.ClassFile.FieldType.int), [])
def so_i260 : so_I := (⟨"SequentMill$Trace", "settledTypes", "()I"⟩, prog_9_method_15_code, 1, (Option.some Jvm.ClassFile.FieldType.int), [])
def so_i261 : so_I := (⟨"SequentMill$Trace", "settledTerms", "()I"⟩, prog_9_method_16_code, 1, (Option.some Jvm.ClassFile.FieldType.int), [])
def so_i262 : so_I := (⟨"SequentMill$Trace", "settle", "()V"⟩, prog_9_method_17_code, 1, (Option.none : Option Jvm.ClassFile.FieldType), [])
def so_i265 : so_I := (⟨"SequentMill$Types", "<init>", "()V"⟩, prog_10_method_1_code, 1, (Option.none : Option Jvm.ClassFile.FieldType), [])
def so_i266 : so_I := (⟨"SequentMill$Types", "hasConstructor", "(I)Z"⟩, prog_10_method_2_code, 2, (Option.some Jvm.ClassFile.FieldType.boolean), [])
def so_i267 : so_I := (⟨"SequentMill$Types", "takesOf", "(I)I"⟩, prog_10_method_3_code, 2, (Option.some Jvm.ClassFile.FieldType.int), [])
def so_i268 : so_I := (⟨"SequentMill$Types", "variable", "(I)I"⟩, prog_10_method_4_code, 2, (Option.some Jvm.ClassFile.FieldType.int), [])
def so_i269 : so_I := (⟨"SequentMill$Types", "built", "(III)I"⟩, prog_10_method_5_code, 5, (Option.some Jvm.ClassFile.FieldType.int), [])
def so_i270 : so_I := (⟨"SequentMill$Types", "functions", "(II)I"⟩, prog_10_method_6_code, 3, (Option.some Jvm.ClassFile.FieldType.int), [])
def so_i271 : so_I := (⟨"SequentMill$Types", "isFunctions", "(I)Z"⟩, prog_10_method_7_code, 2, (Option.some Jvm.ClassFile.FieldType.boolean), [])
def so_i277 : so_I := (⟨"SequentMill$Types", "settle", "()V"⟩, prog_10_method_13_code, 1, (Option.none : Option Jvm.ClassFile.FieldType), [])
def so_i279 : so_I := (⟨"SequentMillLaw", "typeVariable", "(LSequentMill;I[J)I"⟩, method_3_code, 4, (Option.some Jvm.ClassFile.FieldType.int), [((0 : Nat), (9 : Nat), (12 : Nat), (13 : Nat)), ((0 : Nat), (9 : Nat), (15 : Nat), (15 : Nat))])
def so_i280 : so_I := (⟨"SequentMillLaw", "type", "(LSequentMill;III[J)I"⟩, method_4_code, 6, (Option.some Jvm.ClassFile.FieldType.int), [((0 : Nat), (12 : Nat), (15 : Nat), (13 : Nat)), ((0 : Nat), (12 : Nat), (19 : Nat), (21 : Nat)), ((0 : Nat), (12 : Nat), (23 : Nat), (15 : Nat))])
def so_i281 : so_I := (⟨"SequentMillLaw", "free", "(LSequentMill;II[J)I"⟩, method_5_code, 5, (Option.some Jvm.ClassFile.FieldType.int), [((0 : Nat), (10 : Nat), (13 : Nat), (21 : Nat)), ((0 : Nat), (10 : Nat), (17 : Nat), (13 : Nat)), ((0 : Nat), (10 : Nat), (21 : Nat), (15 : Nat))])
def so_i282 : so_I := (⟨"SequentMillLaw", "constant", "(LSequentMill;II[J)I"⟩, method_6_code, 5, (Option.some Jvm.ClassFile.FieldType.int), [((0 : Nat), (10 : Nat), (13 : Nat), (21 : Nat)), ((0 : Nat), (10 : Nat), (17 : Nat), (13 : Nat)), ((0 : Nat), (10 : Nat), (21 : Nat), (15 : Nat))])
def so_i283 : so_I := (⟨"SequentMillLaw", "apply", "(LSequentMill;II[J)I"⟩, method_7_code, 5, (Option.some Jvm.ClassFile.FieldType.int), [((0 : Nat), (10 : Nat), (13 : Nat), (21 : Nat)), ((0 : Nat), (10 : Nat), (17 : Nat), (13 : Nat)), ((0 : Nat), (10 : Nat), (21 : Nat), (15 : Nat))])
def so_i284 : so_I := (⟨"SequentMillLaw", "abstraction", "(LSequentMill;II[J)I"⟩, method_8_code, 5, (Option.some Jvm.ClassFile.FieldType.int), [((0 : Nat), (10 : Nat), (13 : Nat), (21 : Nat)), ((0 : Nat), (10 : Nat), (17 : Nat), (13 : Nat)), ((0 : Nat), (10 : Nat), (21 : Nat), (15 : Nat))])
def so_i285 : so_I := (⟨"SequentMillLaw", "typeOf", "(LSequentMill;I[J)I"⟩, method_9_code, 4, (Option.some Jvm.ClassFile.FieldType.int), [((0 : Nat), (9 : Nat), (12 : Nat), (21 : Nat)), ((0 : Nat), (9 : Nat), (15 : Nat), (15 : Nat))])
def so_i286 : so_I := (⟨"SequentMillLaw", "symbol", "(LSequentMill;II[J)I"⟩, method_10_code, 5, (Option.some Jvm.ClassFile.FieldType.int), [((0 : Nat), (10 : Nat), (13 : Nat), (21 : Nat))])
def so_i287 : so_I := (⟨"SequentMillLaw", "same", "(LSequentMill;II[J)I"⟩, method_11_code, 5, (Option.some Jvm.ClassFile.FieldType.int), [((0 : Nat), (17 : Nat), (20 : Nat), (21 : Nat))])
def so_i288 : so_I := (⟨"SequentMillLaw", "refl", "(LSequentMill;I[J)I"⟩, method_12_code, 4, (Option.some Jvm.ClassFile.FieldType.int), [((0 : Nat), (9 : Nat), (12 : Nat), (21 : Nat)), ((0 : Nat), (9 : Nat), (15 : Nat), (15 : Nat))])
def so_i289 : so_I := (⟨"SequentMillLaw", "trans", "(LSequentMill;II[J)I"⟩, method_13_code, 5, (Option.some Jvm.ClassFile.FieldType.int), [((0 : Nat), (10 : Nat), (13 : Nat), (21 : Nat)), ((0 : Nat), (10 : Nat), (17 : Nat), (13 : Nat)), ((0 : Nat), (10 : Nat), (21 : Nat), (15 : Nat))])
def so_i290 : so_I := (⟨"SequentMillLaw", "applied", "(LSequentMill;II[J)I"⟩, method_14_code, 5, (Option.some Jvm.ClassFile.FieldType.int), [((0 : Nat), (10 : Nat), (13 : Nat), (21 : Nat)), ((0 : Nat), (10 : Nat), (17 : Nat), (13 : Nat)), ((0 : Nat), (10 : Nat), (21 : Nat), (15 : Nat))])
def so_i291 : so_I := (⟨"SequentMillLaw", "abstracted", "(LSequentMill;II[J)I"⟩, method_15_code, 5, (Option.some Jvm.ClassFile.FieldType.int), [((0 : Nat), (10 : Nat), (13 : Nat), (21 : Nat)), ((0 : Nat), (10 : Nat), (17 : Nat), (13 : Nat)), ((0 : Nat), (10 : Nat), (21 : Nat), (15 : Nat))])
def so_i292 : so_I := (⟨"SequentMillLaw", "beta", "(LSequentMill;I[J)I"⟩, method_16_code, 4, (Option.some Jvm.ClassFile.FieldType.int), [((0 : Nat), (9 : Nat), (12 : Nat), (21 : Nat)), ((0 : Nat), (9 : Nat), (15 : Nat), (13 : Nat)), ((0 : Nat), (9 : Nat), (18 : Nat), (15 : Nat))])
def so_i293 : so_I := (⟨"SequentMillLaw", "assume", "(LSequentMill;I[J)I"⟩, method_17_code, 4, (Option.some Jvm.ClassFile.FieldType.int), [((0 : Nat), (9 : Nat), (12 : Nat), (21 : Nat)), ((0 : Nat), (9 : Nat), (15 : Nat), (13 : Nat)), ((0 : Nat), (9 : Nat), (18 : Nat), (15 : Nat))])
def so_i294 : so_I := (⟨"SequentMillLaw", "equal", "(LSequentMill;II[J)I"⟩, method_18_code, 5, (Option.some Jvm.ClassFile.FieldType.int), [((0 : Nat), (10 : Nat), (13 : Nat), (21 : Nat)), ((0 : Nat), (10 : Nat), (17 : Nat), (13 : Nat)), ((0 : Nat), (10 : Nat), (21 : Nat), (15 : Nat))])
def so_i295 : so_I := (⟨"SequentMillLaw", "antisym", "(LSequentMill;II[J)I"⟩, method_19_code, 5, (Option.some Jvm.ClassFile.FieldType.int), [((0 : Nat), (10 : Nat), (13 : Nat), (21 : Nat)), ((0 : Nat), (10 : Nat), (17 : Nat), (15 : Nat))])
def so_i296 : so_I := (⟨"SequentMillLaw", "put", "(LSequentMill;III[J)I"⟩, method_20_code, 6, (Option.some Jvm.ClassFile.FieldType.int), [((0 : Nat), (12 : Nat), (15 : Nat), (21 : Nat)), ((0 : Nat), (12 : Nat), (19 : Nat), (13 : Nat)), ((0 : Nat), (12 : Nat), (23 : Nat), (15 : Nat))])
def so_i297 : so_I := (⟨"SequentMillLaw", "retype", "(LSequentMill;IIIII[J)I"⟩, method_21_code, 8, (Option.some Jvm.ClassFile.FieldType.int), [((0 : Nat), (16 : Nat), (19 : Nat), (21 : Nat)), ((0 : Nat), (16 : Nat), (23 : Nat), (13 : Nat)), ((0 : Nat), (16 : Nat), (27 : Nat), (15 : Nat))])
def so_i298 : so_I := (⟨"SequentMillLaw", "define", "(LSequentMill;I[J)I"⟩, method_22_code, 4, (Option.some Jvm.ClassFile.FieldType.int), [((0 : Nat), (9 : Nat), (12 : Nat), (21 : Nat)), ((0 : Nat), (9 : Nat), (15 : Nat), (13 : Nat)), ((0 : Nat), (9 : Nat), (18 : Nat), (15 : Nat))])
def so_i299 : so_I := (⟨"SequentMillLaw", "defineType", "(LSequentMill;I[J)I"⟩, method_23_code, 4, (Option.some Jvm.ClassFile.FieldType.int), [((0 : Nat), (9 : Nat), (12 : Nat), (21 : Nat)), ((0 : Nat), (9 : Nat), (15 : Nat), (13 : Nat)), ((0 : Nat), (9 : Nat), (18 : Nat), (15 : Nat))])
def so_i300 : so_I := (⟨"SequentMillLaw", "axiom", "(LSequentMill;I[J)I"⟩, method_24_code, 4, (Option.some Jvm.ClassFile.FieldType.int), [((0 : Nat), (9 : Nat), (12 : Nat), (13 : Nat)), ((0 : Nat), (9 : Nat), (15 : Nat), (15 : Nat))])
def so_i301 : so_I := (⟨"SequentMillLaw", "conclusion", "(LSequentMill;I[J)I"⟩, method_25_code, 4, (Option.some Jvm.ClassFile.FieldType.int), [((0 : Nat), (9 : Nat), (12 : Nat), (21 : Nat)), ((0 : Nat), (9 : Nat), (15 : Nat), (15 : Nat))])
def so_i302 : so_I := (⟨"SequentMillLaw", "hypotheses", "(LSequentMill;I[J)I"⟩, method_26_code, 4, (Option.some Jvm.ClassFile.FieldType.int), [((0 : Nat), (9 : Nat), (12 : Nat), (21 : Nat))])
def so_i303 : so_I := (⟨"SequentMillLaw", "hypothesis", "(LSequentMill;II[J)I"⟩, method_27_code, 5, (Option.some Jvm.ClassFile.FieldType.int), [((0 : Nat), (10 : Nat), (13 : Nat), (21 : Nat)), ((0 : Nat), (10 : Nat), (17 : Nat), (15 : Nat))])
def so_i304 : so_I := (⟨"SequentMillLaw", "cut", "(LSequentMill;I)I"⟩, method_28_code, 3, (Option.some Jvm.ClassFile.FieldType.int), [((0 : Nat), (5 : Nat), (8 : Nat), (13 : Nat))])
def so_i305 : so_I := (⟨"SequentMillLaw", "trace", "(LSequentMill;I[J)I"⟩, method_29_code, 4, (Option.some Jvm.ClassFile.FieldType.int), [((0 : Nat), (9 : Nat), (12 : Nat), (21 : Nat))])
def so_i306 : so_I := (x, code, 7, ret, [])
def so_i309 : so_I := (⟨"java/util/Arrays", "copyOf", "([II)[I"⟩, prog_23_method_123_code, 3, (Option.some (Jvm.ClassFile.FieldType.array Jvm.ClassFile.FieldType.int)), [])
noncomputable def so_mi (k : Nat) : Option so_I := (so_br k 155 (so_br k 77 (so_br k 38 (so_br k 19 (so_br k 9 (so_br k 4 (so_br k 2 (so_br k 1 (some so_i0) (some so_i1)) (so_br k 3 (some so_i2) (some so_i3))) (so_br k 6 (so_br k 5 (some so_i4) (some so_i5)) (so_br k 7 none (so_br k 8 (some so_i7) (some so_i8))))) (so_br k 14 (so_br k 11 (so_br k 10 (some so_i9) (some so_i10)) (so_br k 12 (some so_i11) (so_br k 13 (some so_i12) (some so_i13)))) (so_br k 16 (so_br k 15 (some so_i14) (some so_i15)) (so_br k 17 (some so_i16) (so_br k 18 (some so_i17) (some so_i18)))))) (so_br k 28 (so_br k 23 (so_br k 21 (so_br k 20 (some so_i19) (some so_i20)) (so_br k 22 (some so_i21) (some so_i22))) (so_br k 25 (so_br k 24 (some so_i23) (some so_i24)) (so_br k 26 (some so_i25) (so_br k 27 (some so_i26) (some so_i27))))) (so_br k 33 (so_br k 30 (so_br k 29 (some so_i28) (some so_i29)) (so_br k 31 (some so_i30) (so_br k 32 (some so_i31) (some so_i32)))) (so_br k 35 (so_br k 34 (some so_i33) (some so_i34)) (so_br k 36 (some so_i35) (so_br k 37 (some so_i36) (some so_i37))))))) (so_br k 57 (so_br k 47 (so_br k 42 (so_br k 40 (so_br k 39 (some so_i38) (some so_i39)) (so_br k 41 (some so_i40) (some so_i41))) (so_br k 44 (so_br k 43 (some so_i42) none) (so_br k 45 none (so_br k 46 none none)))) (so_br k 52 (so_br k 49 (so_br k 48 (some so_i47) none) (so_br k 50 (some so_i49) (so_br k 51 (some so_i50) none))) (so_br k 54 (so_br k 53 (some so_i52) (some so_i53)) (so_br k 55 none (so_br k 56 (some so_i55) (some so_i56)))))) (so_br k 67 (so_br k 62 (so_br k 59 (so_br k 58 (some so_i57) (some so_i58)) (so_br k 60 (some so_i59) (so_br k 61 (some so_i60) (some so_i61)))) (so_br k 64 (so_br k 63 (some so_i62) none) (so_br k 65 (some so_i64) (so_br k 66 none (some so_i66))))) (so_br k 72 (so_br k 69 (so_br k 68 (some so_i67) none) (so_br k 70 (some so_i69) (so_br k 71 none none))) (so_br k 74 (so_br k 73 none (some so_i73)) (so_br k 75 none (so_br k 76 none (some so_i76)))))))) (so_br k 116 (so_br k 96 (so_br k 86 (so_br k 81 (so_br k 79 (so_br k 78 none (some so_i78)) (so_br k 80 (some so_i79) none)) (so_br k 83 (so_br k 82 (some so_i81) (some so_i82)) (so_br k 84 (some so_i83) (so_br k 85 (some so_i84) (some so_i85))))) (so_br k 91 (so_br k 88 (so_br k 87 (some so_i86) none) (so_br k 89 none (so_br k 90 none none))) (so_br k 93 (so_br k 92 (some so_i91) none) (so_br k 94 (some so_i93) (so_br k 95 none none))))) (so_br k 106 (so_br k 101 (so_br k 98 (so_br k 97 none none) (so_br k 99 none (so_br k 100 (some so_i99) (some so_i100)))) (so_br k 103 (so_br k 102 (some so_i101) (some so_i102)) (so_br k 104 none (so_br k 105 (some so_i104) (some so_i105))))) (so_br k 111 (so_br k 108 (so_br k 107 (some so_i106) (some so_i107)) (so_br k 109 (some so_i108) (so_br k 110 (some so_i109) (some so_i110)))) (so_br k 113 (so_br k 112 (some so_i111) none) (so_br k 114 none (so_br k 115 (some so_i114) none)))))) (so_br k 135 (so_br k 125 (so_br k 120 (so_br k 118 (so_br k 117 none none) (so_br k 119 (some so_i118) none)) (so_br k 122 (so_br k 121 (some so_i120) (some so_i121)) (so_br k 123 (some so_i122) (so_br k 124 (some so_i123) (some so_i124))))) (so_br k 130 (so_br k 127 (so_br k 126 (some so_i125) (some so_i126)) (so_br k 128 (some so_i127) (so_br k 129 (some so_i128) (some so_i129)))) (so_br k 132 (so_br k 131 (some so_i130) (some so_i131)) (so_br k 133 (some so_i132) (so_br k 134 (some so_i133) (some so_i134)))))) (so_br k 145 (so_br k 140 (so_br k 137 (so_br k 136 (some so_i135) none) (so_br k 138 (some so_i137) (so_br k 139 (some so_i138) (some so_i139)))) (so_br k 142 (so_br k 141 (some so_i140) (some so_i141)) (so_br k 143 (some so_i142) (so_br k 144 (some so_i143) (some so_i144))))) (so_br k 150 (so_br k 147 (so_br k 146 (some so_i145) none) (so_br k 148 (some so_i147) (so_br k 149 (some so_i148) (some so_i149)))) (so_br k 152 (so_br k 151 (some so_i150) (some so_i151)) (so_br k 153 none (so_br k 154 none (some so_i154))))))))) (so_br k 232 (so_br k 193 (so_br k 174 (so_br k 164 (so_br k 159 (so_br k 157 (so_br k 156 (some so_i155) (some so_i156)) (so_br k 158 (some so_i157) (some so_i158))) (so_br k 161 (so_br k 160 (some so_i159) (some so_i160)) (so_br k 162 (some so_i161) (so_br k 163 (some so_i162) (some so_i163))))) (so_br k 169 (so_br k 166 (so_br k 165 (some so_i164) none) (so_br k 167 none (so_br k 168 (some so_i167) none))) (so_br k 171 (so_br k 170 (some so_i169) (some so_i170)) (so_br k 172 (some so_i171) (so_br k 173 (some so_i172) (some so_i173)))))) (so_br k 183 (so_br k 178 (so_br k 176 (so_br k 175 (some so_i174) (some so_i175)) (so_br k 177 (some so_i176) (some so_i177))) (so_br k 180 (so_br k 179 (some so_i178) (some so_i179)) (so_br k 181 none (so_br k 182 none none)))) (so_br k 188 (so_br k 185 (so_br k 184 none none) (so_br k 186 none (so_br k 187 (some so_i186) (some so_i187)))) (so_br k 190 (so_br k 189 (some so_i188) none) (so_br k 191 none (so_br k 192 none (some so_i192))))))) (so_br k 212 (so_br k 202 (so_br k 197 (so_br k 195 (so_br k 194 none (some so_i194)) (so_br k 196 (some so_i195) none)) (so_br k 199 (so_br k 198 (some so_i197) (some so_i198)) (so_br k 200 (some so_i199) (so_br k 201 (some so_i200) (some so_i201))))) (so_br k 207 (so_br k 204 (so_br k 203 (some so_i202) (some so_i203)) (so_br k 205 none (so_br k 206 none (some so_i206)))) (so_br k 209 (so_br k 208 (some so_i207) (some so_i208)) (so_br k 210 (some so_i209) (so_br k 211 none (some so_i211)))))) (so_br k 222 (so_br k 217 (so_br k 214 (so_br k 213 (some so_i212) (some so_i213)) (so_br k 215 none (so_br k 216 none none))) (so_br k 219 (so_br k 218 none (some so_i218)) (so_br k 220 none (so_br k 221 none none)))) (so_br k 227 (so_br k 224 (so_br k 223 (some so_i222) (some so_i223)) (so_br k 225 (some so_i224) (so_br k 226 (some so_i225) (some so_i226)))) (so_br k 229 (so_br k 228 (some so_i227) (some so_i228)) (so_br k 230 none (so_br k 231 none none))))))) (so_br k 271 (so_br k 251 (so_br k 241 (so_br k 236 (so_br k 234 (so_br k 233 none none) (so_br k 235 none none)) (so_br k 238 (so_br k 237 none none) (so_br k 239 none (so_br k 240 none none)))) (so_br k 246 (so_br k 243 (so_br k 242 none none) (so_br k 244 none (so_br k 245 (some so_i244) none))) (so_br k 248 (so_br k 247 (some so_i246) (some so_i247)) (so_br k 249 none (so_br k 250 (some so_i249) (some so_i250)))))) (so_br k 261 (so_br k 256 (so_br k 253 (so_br k 252 (some so_i251) none) (so_br k 254 none (so_br k 255 none none))) (so_br k 258 (so_br k 257 none none) (so_br k 259 none (so_br k 260 (some so_i259) (some so_i260))))) (so_br k 266 (so_br k 263 (so_br k 262 (some so_i261) (some so_i262)) (so_br k 264 none (so_br k 265 none (some so_i265)))) (so_br k 268 (so_br k 267 (some so_i266) (some so_i267)) (so_br k 269 (some so_i268) (so_br k 270 (some so_i269) (some so_i270))))))) (so_br k 290 (so_br k 280 (so_br k 275 (so_br k 273 (so_br k 272 (some so_i271) none) (so_br k 274 none none)) (so_br k 277 (so_br k 276 none none) (so_br k 278 (some so_i277) (so_br k 279 none (some so_i279))))) (so_br k 285 (so_br k 282 (so_br k 281 (some so_i280) (some so_i281)) (so_br k 283 (some so_i282) (so_br k 284 (some so_i283) (some so_i284)))) (so_br k 287 (so_br k 286 (some so_i285) (some so_i286)) (so_br k 288 (some so_i287) (so_br k 289 (some so_i288) (some so_i289)))))) (so_br k 300 (so_br k 295 (so_br k 292 (so_br k 291 (some so_i290) (some so_i291)) (so_br k 293 (some so_i292) (so_br k 294 (some so_i293) (some so_i294)))) (so_br k 297 (so_br k 296 (some so_i295) (some so_i296)) (so_br k 298 (some so_i297) (so_br k 299 (some so_i298) (some so_i299))))) (so_br k 305 (so_br k 302 (so_br k 301 (some so_i300) (some so_i301)) (so_br k 303 (some so_i302) (so_br k 304 (some so_i303) (some so_i304)))) (so_br k 307 (so_br k 306 (some so_i305) (some so_i306)) (so_br k 308 none (so_br k 309 none (some so_i309))))))))))
theorem so_in1 {w : Cond} (hw : w ∈ tables_1_1) : w ∈ tables_1 := List.mem_append_left _ hw
theorem so_in2 {w : Cond} (hw : w ∈ tables_1_2) : w ∈ tables_1 := List.mem_append_right _ (List.mem_append_left _ hw)
theorem so_in3 {w : Cond} (hw : w ∈ tables_1_3) : w ∈ tables_1 := List.mem_append_right _ (List.mem_append_right _ (List.mem_append_left _ hw))
theorem so_in4 {w : Cond} (hw : w ∈ tables_1_4) : w ∈ tables_1 := List.mem_append_right _ (List.mem_append_right _ (List.mem_append_right _ (List.mem_append_left _ hw)))
theorem so_in5 {w : Cond} (hw : w ∈ tables_1_5) : w ∈ tables_1 := List.mem_append_right _ (List.mem_append_right _ (List.mem_append_right _ (List.mem_append_right _ (List.mem_append_left _ hw))))
theorem so_in6 {w : Cond} (hw : w ∈ tables_1_6) : w ∈ tables_1 := List.mem_append_right _ (List.mem_append_right _ (List.mem_append_right _ (List.mem_append_right _ (List.mem_append_right _ (List.mem_append_left _ hw)))))
theorem so_in7 {w : Cond} (hw : w ∈ tables_1_7) : w ∈ tables_1 := List.mem_append_right _ (List.mem_append_right _ (List.mem_append_right _ (List.mem_append_right _ (List.mem_append_right _ (List.mem_append_right _ (List.mem_append_left _ hw))))))
theorem so_in8 {w : Cond} (hw : w ∈ tables_1_8) : w ∈ tables_1 := List.mem_append_right _ (List.mem_append_right _ (List.mem_append_right _ (List.mem_append_right _ (List.mem_append_right _ (List.mem_append_right _ (List.mem_append_right _ (hw)))))))
theorem so_ww0 : so_w0 so_i0 ∈ so_Ts := so_win (so_in7 (List.mem_of_getElem? (i := 128) rfl)) rfl
theorem so_ww1 : so_w0 so_i1 ∈ so_Ts := so_win (so_in7 (List.mem_of_getElem? (i := 116) rfl)) rfl
theorem so_ww2 : so_w0 so_i2 ∈ so_Ts := so_win (so_in7 (List.mem_of_getElem? (i := 164) rfl)) rfl
theorem so_ww3 : so_w0 so_i3 ∈ so_Ts := so_win (so_in7 (List.mem_of_getElem? (i := 152) rfl)) rfl
theorem so_ww4 : so_w0 so_i4 ∈ so_Ts := so_win (so_in6 (List.mem_of_getElem? (i := 153) rfl)) rfl
theorem so_ww5 : so_w0 so_i5 ∈ so_Ts := so_win (so_in1 (List.mem_of_getElem? (i := 150) rfl)) rfl
theorem so_ww7 : so_w0 so_i7 ∈ so_Ts := so_win (so_in1 (List.mem_of_getElem? (i := 57) rfl)) rfl
theorem so_ww8 : so_w0 so_i8 ∈ so_Ts := so_win (so_in1 (List.mem_of_getElem? (i := 25) rfl)) rfl
theorem so_ww9 : so_w0 so_i9 ∈ so_Ts := so_win (so_in2 (List.mem_of_getElem? (i := 226) rfl)) rfl
theorem so_ww10 : so_w0 so_i10 ∈ so_Ts := so_win (so_in3 (List.mem_of_getElem? (i := 133) rfl)) rfl
theorem so_ww11 : so_w0 so_i11 ∈ so_Ts := so_win (so_in3 (List.mem_of_getElem? (i := 176) rfl)) rfl
theorem so_ww12 : so_w0 so_i12 ∈ so_Ts := so_win (so_in3 (List.mem_of_getElem? (i := 194) rfl)) rfl
theorem so_ww13 : so_w0 so_i13 ∈ so_Ts := so_win (so_in4 (List.mem_of_getElem? (i := 4) rfl)) rfl
theorem so_ww14 : so_w0 so_i14 ∈ so_Ts := so_win (so_in4 (List.mem_of_getElem? (i := 56) rfl)) rfl
theorem so_ww15 : so_w0 so_i15 ∈ so_Ts := so_win (so_in4 (List.mem_of_getElem? (i := 109) rfl)) rfl
theorem so_ww16 : so_w0 so_i16 ∈ so_Ts := so_win (so_in4 (List.mem_of_getElem? (i := 117) rfl)) rfl
theorem so_ww17 : so_w0 so_i17 ∈ so_Ts := so_win (so_in4 (List.mem_of_getElem? (i := 129) rfl)) rfl
theorem so_ww18 : so_w0 so_i18 ∈ so_Ts := so_win (so_in4 (List.mem_of_getElem? (i := 136) rfl)) rfl
theorem so_ww19 : so_w0 so_i19 ∈ so_Ts := so_win (so_in5 (List.mem_of_getElem? (i := 6) rfl)) rfl
theorem so_ww20 : so_w0 so_i20 ∈ so_Ts := so_win (so_in5 (List.mem_of_getElem? (i := 72) rfl)) rfl
theorem so_ww21 : so_w0 so_i21 ∈ so_Ts := so_win (so_in5 (List.mem_of_getElem? (i := 80) rfl)) rfl
theorem so_ww22 : so_w0 so_i22 ∈ so_Ts := so_win (so_in5 (List.mem_of_getElem? (i := 120) rfl)) rfl
theorem so_ww23 : so_w0 so_i23 ∈ so_Ts := so_win (so_in5 (List.mem_of_getElem? (i := 138) rfl)) rfl
theorem so_ww24 : so_w0 so_i24 ∈ so_Ts := so_win (so_in5 (List.mem_of_getElem? (i := 148) rfl)) rfl
theorem so_ww25 : so_w0 so_i25 ∈ so_Ts := so_win (so_in5 (List.mem_of_getElem? (i := 156) rfl)) rfl
theorem so_ww26 : so_w0 so_i26 ∈ so_Ts := so_win (so_in5 (List.mem_of_getElem? (i := 163) rfl)) rfl
theorem so_ww27 : so_w0 so_i27 ∈ so_Ts := so_win (so_in5 (List.mem_of_getElem? (i := 185) rfl)) rfl
theorem so_ww28 : so_w0 so_i28 ∈ so_Ts := so_win (so_in5 (List.mem_of_getElem? (i := 202) rfl)) rfl
theorem so_ww29 : so_w0 so_i29 ∈ so_Ts := so_win (so_in6 (List.mem_of_getElem? (i := 1) rfl)) rfl
theorem so_ww30 : so_w0 so_i30 ∈ so_Ts := so_win (so_in6 (List.mem_of_getElem? (i := 36) rfl)) rfl
theorem so_ww31 : so_w0 so_i31 ∈ so_Ts := so_win (so_in6 (List.mem_of_getElem? (i := 85) rfl)) rfl
theorem so_ww32 : so_w0 so_i32 ∈ so_Ts := so_win (so_in6 (List.mem_of_getElem? (i := 92) rfl)) rfl
theorem so_ww33 : so_w0 so_i33 ∈ so_Ts := so_win (so_in6 (List.mem_of_getElem? (i := 99) rfl)) rfl
theorem so_ww34 : so_w0 so_i34 ∈ so_Ts := so_win (so_in2 (List.mem_of_getElem? (i := 204) rfl)) rfl
theorem so_ww35 : so_w0 so_i35 ∈ so_Ts := so_win (so_in6 (List.mem_of_getElem? (i := 107) rfl)) rfl
theorem so_ww36 : so_w0 so_i36 ∈ so_Ts := so_win (so_in2 (List.mem_of_getElem? (i := 213) rfl)) rfl
theorem so_ww37 : so_w0 so_i37 ∈ so_Ts := so_win (so_in6 (List.mem_of_getElem? (i := 136) rfl)) rfl
theorem so_ww38 : so_w0 so_i38 ∈ so_Ts := so_win (so_in2 (List.mem_of_getElem? (i := 229) rfl)) rfl
theorem so_ww39 : so_w0 so_i39 ∈ so_Ts := so_win (so_in3 (List.mem_of_getElem? (i := 143) rfl)) rfl
theorem so_ww40 : so_w0 so_i40 ∈ so_Ts := so_win (so_in4 (List.mem_of_getElem? (i := 8) rfl)) rfl
theorem so_ww41 : so_w0 so_i41 ∈ so_Ts := so_win (so_in5 (List.mem_of_getElem? (i := 14) rfl)) rfl
theorem so_ww42 : so_w0 so_i42 ∈ so_Ts := so_win (so_in5 (List.mem_of_getElem? (i := 10) rfl)) rfl
theorem so_ww47 : so_w0 so_i47 ∈ so_Ts := so_win (so_in3 (List.mem_of_getElem? (i := 62) rfl)) rfl
theorem so_ww49 : so_w0 so_i49 ∈ so_Ts := so_win (so_in4 (List.mem_of_getElem? (i := 208) rfl)) rfl
theorem so_ww50 : so_w0 so_i50 ∈ so_Ts := so_win (so_in2 (List.mem_of_getElem? (i := 152) rfl)) rfl
theorem so_ww52 : so_w0 so_i52 ∈ so_Ts := so_win (so_in6 (List.mem_of_getElem? (i := 146) rfl)) rfl
theorem so_ww53 : so_w0 so_i53 ∈ so_Ts := so_win (so_in7 (List.mem_of_getElem? (i := 76) rfl)) rfl
theorem so_ww55 : so_w0 so_i55 ∈ so_Ts := so_win (so_in7 (List.mem_of_getElem? (i := 83) rfl)) rfl
theorem so_ww56 : so_w0 so_i56 ∈ so_Ts := so_win (so_in6 (List.mem_of_getElem? (i := 157) rfl)) rfl
theorem so_ww57 : so_w0 so_i57 ∈ so_Ts := so_win (so_in7 (List.mem_of_getElem? (i := 228) rfl)) rfl
theorem so_ww58 : so_w0 so_i58 ∈ so_Ts := so_win (so_in7 (List.mem_of_getElem? (i := 95) rfl)) rfl
theorem so_ww59 : so_w0 so_i59 ∈ so_Ts := so_win (so_in7 (List.mem_of_getElem? (i := 91) rfl)) rfl
theorem so_ww60 : so_w0 so_i60 ∈ so_Ts := so_win (so_in7 (List.mem_of_getElem? (i := 87) rfl)) rfl
theorem so_ww61 : so_w0 so_i61 ∈ so_Ts := so_win (so_in7 (List.mem_of_getElem? (i := 80) rfl)) rfl
theorem so_ww62 : so_w0 so_i62 ∈ so_Ts := so_win (so_in7 (List.mem_of_getElem? (i := 103) rfl)) rfl
theorem so_ww64 : so_w0 so_i64 ∈ so_Ts := so_win (so_in7 (List.mem_of_getElem? (i := 188) rfl)) rfl
theorem so_ww66 : so_w0 so_i66 ∈ so_Ts := so_win (so_in7 (List.mem_of_getElem? (i := 124) rfl)) rfl
theorem so_ww67 : so_w0 so_i67 ∈ so_Ts := so_win (so_in7 (List.mem_of_getElem? (i := 111) rfl)) rfl
theorem so_ww69 : so_w0 so_i69 ∈ so_Ts := so_win (so_in7 (List.mem_of_getElem? (i := 168) rfl)) rfl
theorem so_ww73 : so_w0 so_i73 ∈ so_Ts := so_win (so_in7 (List.mem_of_getElem? (i := 224) rfl)) rfl
theorem so_ww76 : so_w0 so_i76 ∈ so_Ts := so_win (so_in7 (List.mem_of_getElem? (i := 144) rfl)) rfl
theorem so_ww78 : so_w0 so_i78 ∈ so_Ts := so_win (so_in7 (List.mem_of_getElem? (i := 107) rfl)) rfl
theorem so_ww79 : so_w0 so_i79 ∈ so_Ts := so_win (so_in7 (List.mem_of_getElem? (i := 132) rfl)) rfl
theorem so_ww81 : so_w0 so_i81 ∈ so_Ts := so_win (so_in7 (List.mem_of_getElem? (i := 140) rfl)) rfl
theorem so_ww82 : so_w0 so_i82 ∈ so_Ts := so_win (so_in7 (List.mem_of_getElem? (i := 156) rfl)) rfl
theorem so_ww83 : so_w0 so_i83 ∈ so_Ts := so_win (so_in7 (List.mem_of_getElem? (i := 172) rfl)) rfl
theorem so_ww84 : so_w0 so_i84 ∈ so_Ts := so_win (so_in7 (List.mem_of_getElem? (i := 176) rfl)) rfl
theorem so_ww85 : so_w0 so_i85 ∈ so_Ts := so_win (so_in7 (List.mem_of_getElem? (i := 180) rfl)) rfl
theorem so_ww86 : so_w0 so_i86 ∈ so_Ts := so_win (so_in7 (List.mem_of_getElem? (i := 208) rfl)) rfl
theorem so_ww91 : so_w0 so_i91 ∈ so_Ts := so_win (so_in7 (List.mem_of_getElem? (i := 196) rfl)) rfl
theorem so_ww93 : so_w0 so_i93 ∈ so_Ts := so_win (so_in8 (List.mem_of_getElem? (i := 13) rfl)) rfl
theorem so_ww99 : so_w0 so_i99 ∈ so_Ts := so_win (so_in8 (List.mem_of_getElem? (i := 1) rfl)) rfl
theorem so_ww100 : so_w0 so_i100 ∈ so_Ts := so_win (so_in7 (List.mem_of_getElem? (i := 236) rfl)) rfl
theorem so_ww101 : so_w0 so_i101 ∈ so_Ts := so_win (so_in7 (List.mem_of_getElem? (i := 232) rfl)) rfl
theorem so_ww102 : so_w0 so_i102 ∈ so_Ts := so_win (so_in7 (List.mem_of_getElem? (i := 192) rfl)) rfl
theorem so_ww104 : so_w0 so_i104 ∈ so_Ts := so_win (so_in8 (List.mem_of_getElem? (i := 9) rfl)) rfl
theorem so_ww105 : so_w0 so_i105 ∈ so_Ts := so_win (so_in8 (List.mem_of_getElem? (i := 45) rfl)) rfl
theorem so_ww106 : so_w0 so_i106 ∈ so_Ts := so_win (so_in8 (List.mem_of_getElem? (i := 49) rfl)) rfl
theorem so_ww107 : so_w0 so_i107 ∈ so_Ts := so_win (so_in8 (List.mem_of_getElem? (i := 57) rfl)) rfl
theorem so_ww108 : so_w0 so_i108 ∈ so_Ts := so_win (so_in8 (List.mem_of_getElem? (i := 65) rfl)) rfl
theorem so_ww109 : so_w0 so_i109 ∈ so_Ts := so_win (so_in8 (List.mem_of_getElem? (i := 69) rfl)) rfl
theorem so_ww110 : so_w0 so_i110 ∈ so_Ts := so_win (so_in8 (List.mem_of_getElem? (i := 73) rfl)) rfl
theorem so_ww111 : so_w0 so_i111 ∈ so_Ts := so_win (so_in8 (List.mem_of_getElem? (i := 77) rfl)) rfl
theorem so_ww114 : so_w0 so_i114 ∈ so_Ts := so_win (so_in8 (List.mem_of_getElem? (i := 85) rfl)) rfl
theorem so_ww118 : so_w0 so_i118 ∈ so_Ts := so_win (so_in8 (List.mem_of_getElem? (i := 97) rfl)) rfl
theorem so_ww120 : so_w0 so_i120 ∈ so_Ts := so_win (so_in8 (List.mem_of_getElem? (i := 113) rfl)) rfl
theorem so_ww121 : so_w0 so_i121 ∈ so_Ts := so_win (so_in8 (List.mem_of_getElem? (i := 129) rfl)) rfl
theorem so_ww122 : so_w0 so_i122 ∈ so_Ts := so_win (so_in8 (List.mem_of_getElem? (i := 133) rfl)) rfl
theorem so_ww123 : so_w0 so_i123 ∈ so_Ts := so_win (so_in8 (List.mem_of_getElem? (i := 137) rfl)) rfl
theorem so_ww124 : so_w0 so_i124 ∈ so_Ts := so_win (so_in8 (List.mem_of_getElem? (i := 141) rfl)) rfl
theorem so_ww125 : so_w0 so_i125 ∈ so_Ts := so_win (so_in8 (List.mem_of_getElem? (i := 161) rfl)) rfl
theorem so_ww126 : so_w0 so_i126 ∈ so_Ts := so_win (so_in8 (List.mem_of_getElem? (i := 157) rfl)) rfl
theorem so_ww127 : so_w0 so_i127 ∈ so_Ts := so_win (so_in8 (List.mem_of_getElem? (i := 153) rfl)) rfl
theorem so_ww128 : so_w0 so_i128 ∈ so_Ts := so_win (so_in8 (List.mem_of_getElem? (i := 169) rfl)) rfl
theorem so_ww129 : so_w0 so_i129 ∈ so_Ts := so_win (so_in8 (List.mem_of_getElem? (i := 149) rfl)) rfl
theorem so_ww130 : so_w0 so_i130 ∈ so_Ts := so_win (so_in8 (List.mem_of_getElem? (i := 177) rfl)) rfl
theorem so_ww131 : so_w0 so_i131 ∈ so_Ts := so_win (so_in8 (List.mem_of_getElem? (i := 173) rfl)) rfl
theorem so_ww132 : so_w0 so_i132 ∈ so_Ts := so_win (so_in8 (List.mem_of_getElem? (i := 125) rfl)) rfl
theorem so_ww133 : so_w0 so_i133 ∈ so_Ts := so_win (so_in8 (List.mem_of_getElem? (i := 145) rfl)) rfl
theorem so_ww134 : so_w0 so_i134 ∈ so_Ts := so_win (so_in8 (List.mem_of_getElem? (i := 165) rfl)) rfl
theorem so_ww135 : so_w0 so_i135 ∈ so_Ts := so_win (so_in8 (List.mem_of_getElem? (i := 121) rfl)) rfl
theorem so_ww137 : so_w0 so_i137 ∈ so_Ts := so_win (so_in8 (List.mem_of_getElem? (i := 181) rfl)) rfl
theorem so_ww138 : so_w0 so_i138 ∈ so_Ts := so_win (so_in8 (List.mem_of_getElem? (i := 189) rfl)) rfl
theorem so_ww139 : so_w0 so_i139 ∈ so_Ts := so_win (so_in8 (List.mem_of_getElem? (i := 193) rfl)) rfl
theorem so_ww140 : so_w0 so_i140 ∈ so_Ts := so_win (so_in8 (List.mem_of_getElem? (i := 197) rfl)) rfl
theorem so_ww141 : so_w0 so_i141 ∈ so_Ts := so_win (so_in8 (List.mem_of_getElem? (i := 201) rfl)) rfl
theorem so_ww142 : so_w0 so_i142 ∈ so_Ts := so_win (so_in8 (List.mem_of_getElem? (i := 205) rfl)) rfl
theorem so_ww143 : so_w0 so_i143 ∈ so_Ts := so_win (so_in8 (List.mem_of_getElem? (i := 209) rfl)) rfl
theorem so_ww144 : so_w0 so_i144 ∈ so_Ts := so_win (so_in2 (List.mem_of_getElem? (i := 135) rfl)) rfl
theorem so_ww145 : so_w0 so_i145 ∈ so_Ts := so_win (so_in3 (List.mem_of_getElem? (i := 147) rfl)) rfl
theorem so_ww147 : so_w0 so_i147 ∈ so_Ts := so_win (so_in3 (List.mem_of_getElem? (i := 67) rfl)) rfl
theorem so_ww148 : so_w0 so_i148 ∈ so_Ts := so_win (so_in3 (List.mem_of_getElem? (i := 123) rfl)) rfl
theorem so_ww149 : so_w0 so_i149 ∈ so_Ts := so_win (so_in2 (List.mem_of_getElem? (i := 29) rfl)) rfl
theorem so_ww150 : so_w0 so_i150 ∈ so_Ts := so_win (so_in4 (List.mem_of_getElem? (i := 187) rfl)) rfl
theorem so_ww151 : so_w0 so_i151 ∈ so_Ts := so_win (so_in4 (List.mem_of_getElem? (i := 192) rfl)) rfl
theorem so_ww154 : so_w0 so_i154 ∈ so_Ts := so_win (so_in6 (List.mem_of_getElem? (i := 41) rfl)) rfl
theorem so_ww155 : so_w0 so_i155 ∈ so_Ts := so_win (so_in6 (List.mem_of_getElem? (i := 47) rfl)) rfl
theorem so_ww156 : so_w0 so_i156 ∈ so_Ts := so_win (so_in6 (List.mem_of_getElem? (i := 68) rfl)) rfl
theorem so_ww157 : so_w0 so_i157 ∈ so_Ts := so_win (so_in6 (List.mem_of_getElem? (i := 51) rfl)) rfl
theorem so_ww158 : so_w0 so_i158 ∈ so_Ts := so_win (so_in6 (List.mem_of_getElem? (i := 59) rfl)) rfl
theorem so_ww159 : so_w0 so_i159 ∈ so_Ts := so_win (so_in6 (List.mem_of_getElem? (i := 55) rfl)) rfl
theorem so_ww160 : so_w0 so_i160 ∈ so_Ts := so_win (so_in6 (List.mem_of_getElem? (i := 64) rfl)) rfl
theorem so_ww161 : so_w0 so_i161 ∈ so_Ts := so_win (so_in6 (List.mem_of_getElem? (i := 73) rfl)) rfl
theorem so_ww162 : so_w0 so_i162 ∈ so_Ts := so_win (so_in6 (List.mem_of_getElem? (i := 78) rfl)) rfl
theorem so_ww163 : so_w0 so_i163 ∈ so_Ts := so_win (so_in1 (List.mem_of_getElem? (i := 235) rfl)) rfl
theorem so_ww164 : so_w0 so_i164 ∈ so_Ts := so_win (so_in4 (List.mem_of_getElem? (i := 69) rfl)) rfl
theorem so_ww167 : so_w0 so_i167 ∈ so_Ts := so_win (so_in4 (List.mem_of_getElem? (i := 65) rfl)) rfl
theorem so_ww169 : so_w0 so_i169 ∈ so_Ts := so_win (so_in4 (List.mem_of_getElem? (i := 75) rfl)) rfl
theorem so_ww170 : so_w0 so_i170 ∈ so_Ts := so_win (so_in4 (List.mem_of_getElem? (i := 90) rfl)) rfl
theorem so_ww171 : so_w0 so_i171 ∈ so_Ts := so_win (so_in4 (List.mem_of_getElem? (i := 80) rfl)) rfl
theorem so_ww172 : so_w0 so_i172 ∈ so_Ts := so_win (so_in1 (List.mem_of_getElem? (i := 45) rfl)) rfl
theorem so_ww173 : so_w0 so_i173 ∈ so_Ts := so_win (so_in2 (List.mem_of_getElem? (i := 164) rfl)) rfl
theorem so_ww174 : so_w0 so_i174 ∈ so_Ts := so_win (so_in1 (List.mem_of_getElem? (i := 146) rfl)) rfl
theorem so_ww175 : so_w0 so_i175 ∈ so_Ts := so_win (so_in1 (List.mem_of_getElem? (i := 118) rfl)) rfl
theorem so_ww176 : so_w0 so_i176 ∈ so_Ts := so_win (so_in3 (List.mem_of_getElem? (i := 88) rfl)) rfl
theorem so_ww177 : so_w0 so_i177 ∈ so_Ts := so_win (so_in2 (List.mem_of_getElem? (i := 81) rfl)) rfl
theorem so_ww178 : so_w0 so_i178 ∈ so_Ts := so_win (so_in2 (List.mem_of_getElem? (i := 208) rfl)) rfl
theorem so_ww179 : so_w0 so_i179 ∈ so_Ts := so_win (so_in6 (List.mem_of_getElem? (i := 111) rfl)) rfl
theorem so_ww186 : so_w0 so_i186 ∈ so_Ts := so_win (so_in4 (List.mem_of_getElem? (i := 181) rfl)) rfl
theorem so_ww187 : so_w0 so_i187 ∈ so_Ts := so_win (so_in4 (List.mem_of_getElem? (i := 212) rfl)) rfl
theorem so_ww188 : so_w0 so_i188 ∈ so_Ts := so_win (so_in4 (List.mem_of_getElem? (i := 203) rfl)) rfl
theorem so_ww192 : so_w0 so_i192 ∈ so_Ts := so_win (so_in4 (List.mem_of_getElem? (i := 199) rfl)) rfl
theorem so_ww194 : so_w0 so_i194 ∈ so_Ts := so_win (so_in4 (List.mem_of_getElem? (i := 221) rfl)) rfl
theorem so_ww195 : so_w0 so_i195 ∈ so_Ts := so_win (so_in4 (List.mem_of_getElem? (i := 227) rfl)) rfl
theorem so_ww197 : so_w0 so_i197 ∈ so_Ts := so_win (so_in1 (List.mem_of_getElem? (i := 39) rfl)) rfl
theorem so_ww198 : so_w0 so_i198 ∈ so_Ts := so_win (so_in3 (List.mem_of_getElem? (i := 228) rfl)) rfl
theorem so_ww199 : so_w0 so_i199 ∈ so_Ts := so_win (so_in3 (List.mem_of_getElem? (i := 232) rfl)) rfl
theorem so_ww200 : so_w0 so_i200 ∈ so_Ts := so_win (so_in3 (List.mem_of_getElem? (i := 236) rfl)) rfl
theorem so_ww201 : so_w0 so_i201 ∈ so_Ts := so_win (so_in4 (List.mem_of_getElem? (i := 21) rfl)) rfl
theorem so_ww202 : so_w0 so_i202 ∈ so_Ts := so_win (so_in1 (List.mem_of_getElem? (i := 163) rfl)) rfl
theorem so_ww203 : so_w0 so_i203 ∈ so_Ts := so_win (so_in1 (List.mem_of_getElem? (i := 167) rfl)) rfl
theorem so_ww206 : so_w0 so_i206 ∈ so_Ts := so_win (so_in1 (List.mem_of_getElem? (i := 154) rfl)) rfl
theorem so_ww207 : so_w0 so_i207 ∈ so_Ts := so_win (so_in1 (List.mem_of_getElem? (i := 159) rfl)) rfl
theorem so_ww208 : so_w0 so_i208 ∈ so_Ts := so_win (so_in1 (List.mem_of_getElem? (i := 174) rfl)) rfl
theorem so_ww209 : so_w0 so_i209 ∈ so_Ts := so_win (so_in2 (List.mem_of_getElem? (i := 160) rfl)) rfl
theorem so_ww211 : so_w0 so_i211 ∈ so_Ts := so_win (so_in3 (List.mem_of_getElem? (i := 211) rfl)) rfl
theorem so_ww212 : so_w0 so_i212 ∈ so_Ts := so_win (so_in3 (List.mem_of_getElem? (i := 220) rfl)) rfl
theorem so_ww213 : so_w0 so_i213 ∈ so_Ts := so_win (so_in3 (List.mem_of_getElem? (i := 224) rfl)) rfl
theorem so_ww218 : so_w0 so_i218 ∈ so_Ts := so_win (so_in1 (List.mem_of_getElem? (i := 199) rfl)) rfl
theorem so_ww222 : so_w0 so_i222 ∈ so_Ts := so_win (so_in3 (List.mem_of_getElem? (i := 181) rfl)) rfl
theorem so_ww223 : so_w0 so_i223 ∈ so_Ts := so_win (so_in4 (List.mem_of_getElem? (i := 37) rfl)) rfl
theorem so_ww224 : so_w0 so_i224 ∈ so_Ts := so_win (so_in4 (List.mem_of_getElem? (i := 49) rfl)) rfl
theorem so_ww225 : so_w0 so_i225 ∈ so_Ts := so_win (so_in4 (List.mem_of_getElem? (i := 94) rfl)) rfl
theorem so_ww226 : so_w0 so_i226 ∈ so_Ts := so_win (so_in4 (List.mem_of_getElem? (i := 98) rfl)) rfl
theorem so_ww227 : so_w0 so_i227 ∈ so_Ts := so_win (so_in4 (List.mem_of_getElem? (i := 41) rfl)) rfl
theorem so_ww228 : so_w0 so_i228 ∈ so_Ts := so_win (so_in4 (List.mem_of_getElem? (i := 45) rfl)) rfl
theorem so_ww244 : so_w0 so_i244 ∈ so_Ts := so_win (so_in2 (List.mem_of_getElem? (i := 168) rfl)) rfl
theorem so_ww246 : so_w0 so_i246 ∈ so_Ts := so_win (so_in2 (List.mem_of_getElem? (i := 45) rfl)) rfl
theorem so_ww247 : so_w0 so_i247 ∈ so_Ts := so_win (so_in2 (List.mem_of_getElem? (i := 217) rfl)) rfl
theorem so_ww249 : so_w0 so_i249 ∈ so_Ts := so_win (so_in4 (List.mem_of_getElem? (i := 216) rfl)) rfl
theorem so_ww250 : so_w0 so_i250 ∈ so_Ts := so_win (so_in4 (List.mem_of_getElem? (i := 159) rfl)) rfl
theorem so_ww251 : so_w0 so_i251 ∈ so_Ts := so_win (so_in4 (List.mem_of_getElem? (i := 177) rfl)) rfl
theorem so_ww259 : so_w0 so_i259 ∈ so_Ts := so_win (so_in4 (List.mem_of_getElem? (i := 231) rfl)) rfl
theorem so_ww260 : so_w0 so_i260 ∈ so_Ts := so_win (so_in4 (List.mem_of_getElem? (i := 235) rfl)) rfl
theorem so_ww261 : so_w0 so_i261 ∈ so_Ts := so_win (so_in4 (List.mem_of_getElem? (i := 239) rfl)) rfl
theorem so_ww262 : so_w0 so_i262 ∈ so_Ts := so_win (so_in2 (List.mem_of_getElem? (i := 174) rfl)) rfl
theorem so_ww265 : so_w0 so_i265 ∈ so_Ts := so_win (so_in1 (List.mem_of_getElem? (i := 33) rfl)) rfl
theorem so_ww266 : so_w0 so_i266 ∈ so_Ts := so_win (so_in3 (List.mem_of_getElem? (i := 137) rfl)) rfl
theorem so_ww267 : so_w0 so_i267 ∈ so_Ts := so_win (so_in1 (List.mem_of_getElem? (i := 142) rfl)) rfl
theorem so_ww268 : so_w0 so_i268 ∈ so_Ts := so_win (so_in1 (List.mem_of_getElem? (i := 209) rfl)) rfl
theorem so_ww269 : so_w0 so_i269 ∈ so_Ts := so_win (so_in1 (List.mem_of_getElem? (i := 138) rfl)) rfl
theorem so_ww270 : so_w0 so_i270 ∈ so_Ts := so_win (so_in1 (List.mem_of_getElem? (i := 213) rfl)) rfl
theorem so_ww271 : so_w0 so_i271 ∈ so_Ts := so_win (so_in4 (List.mem_of_getElem? (i := 26) rfl)) rfl
theorem so_ww277 : so_w0 so_i277 ∈ so_Ts := so_win (so_in2 (List.mem_of_getElem? (i := 156) rfl)) rfl
theorem so_ww279 : so_w0 so_i279 ∈ so_Ts := so_win (so_in2 (List.mem_of_getElem? (i := 220) rfl)) rfl
theorem so_ww280 : so_w0 so_i280 ∈ so_Ts := so_win (so_in3 (List.mem_of_getElem? (i := 128) rfl)) rfl
theorem so_ww281 : so_w0 so_i281 ∈ so_Ts := so_win (so_in3 (List.mem_of_getElem? (i := 172) rfl)) rfl
theorem so_ww282 : so_w0 so_i282 ∈ so_Ts := so_win (so_in3 (List.mem_of_getElem? (i := 190) rfl)) rfl
theorem so_ww283 : so_w0 so_i283 ∈ so_Ts := so_win (so_in4 (List.mem_of_getElem? (i := 0) rfl)) rfl
theorem so_ww284 : so_w0 so_i284 ∈ so_Ts := so_win (so_in4 (List.mem_of_getElem? (i := 52) rfl)) rfl
theorem so_ww285 : so_w0 so_i285 ∈ so_Ts := so_win (so_in4 (List.mem_of_getElem? (i := 105) rfl)) rfl
theorem so_ww286 : so_w0 so_i286 ∈ so_Ts := so_win (so_in4 (List.mem_of_getElem? (i := 113) rfl)) rfl
theorem so_ww287 : so_w0 so_i287 ∈ so_Ts := so_win (so_in4 (List.mem_of_getElem? (i := 125) rfl)) rfl
theorem so_ww288 : so_w0 so_i288 ∈ so_Ts := so_win (so_in4 (List.mem_of_getElem? (i := 132) rfl)) rfl
theorem so_ww289 : so_w0 so_i289 ∈ so_Ts := so_win (so_in5 (List.mem_of_getElem? (i := 2) rfl)) rfl
theorem so_ww290 : so_w0 so_i290 ∈ so_Ts := so_win (so_in5 (List.mem_of_getElem? (i := 68) rfl)) rfl
theorem so_ww291 : so_w0 so_i291 ∈ so_Ts := so_win (so_in5 (List.mem_of_getElem? (i := 76) rfl)) rfl
theorem so_ww292 : so_w0 so_i292 ∈ so_Ts := so_win (so_in5 (List.mem_of_getElem? (i := 116) rfl)) rfl
theorem so_ww293 : so_w0 so_i293 ∈ so_Ts := so_win (so_in5 (List.mem_of_getElem? (i := 134) rfl)) rfl
theorem so_ww294 : so_w0 so_i294 ∈ so_Ts := so_win (so_in5 (List.mem_of_getElem? (i := 144) rfl)) rfl
theorem so_ww295 : so_w0 so_i295 ∈ so_Ts := so_win (so_in5 (List.mem_of_getElem? (i := 152) rfl)) rfl
theorem so_ww296 : so_w0 so_i296 ∈ so_Ts := so_win (so_in5 (List.mem_of_getElem? (i := 159) rfl)) rfl
theorem so_ww297 : so_w0 so_i297 ∈ so_Ts := so_win (so_in5 (List.mem_of_getElem? (i := 181) rfl)) rfl
theorem so_ww298 : so_w0 so_i298 ∈ so_Ts := so_win (so_in5 (List.mem_of_getElem? (i := 198) rfl)) rfl
theorem so_ww299 : so_w0 so_i299 ∈ so_Ts := so_win (so_in5 (List.mem_of_getElem? (i := 237) rfl)) rfl
theorem so_ww300 : so_w0 so_i300 ∈ so_Ts := so_win (so_in6 (List.mem_of_getElem? (i := 32) rfl)) rfl
theorem so_ww301 : so_w0 so_i301 ∈ so_Ts := so_win (so_in6 (List.mem_of_getElem? (i := 81) rfl)) rfl
theorem so_ww302 : so_w0 so_i302 ∈ so_Ts := so_win (so_in6 (List.mem_of_getElem? (i := 88) rfl)) rfl
theorem so_ww303 : so_w0 so_i303 ∈ so_Ts := so_win (so_in6 (List.mem_of_getElem? (i := 95) rfl)) rfl
theorem so_ww304 : so_w0 so_i304 ∈ so_Ts := so_win (so_in6 (List.mem_of_getElem? (i := 103) rfl)) rfl
theorem so_ww305 : so_w0 so_i305 ∈ so_Ts := so_win (so_in6 (List.mem_of_getElem? (i := 132) rfl)) rfl
theorem so_ww306 : so_w0 so_i306 ∈ so_Ts := List.mem_cons_self
theorem so_ww309 : so_w0 so_i309 ∈ so_Ts := so_win (so_in1 (List.mem_of_getElem? (i := 121) rfl)) rfl
def so_wP (a : Option so_I) : Prop := ∀ J, a = some J → so_w0 J ∈ so_Ts
theorem so_wB {k n : Nat} {a b : Option so_I} (h1 : so_wP a) (h2 : so_wP b) : so_wP (so_br k n a b) := by
  unfold so_br
  cases Nat.blt k n
  · exact h2
  · exact h1
theorem so_wN : so_wP none := fun J h => by cases h
theorem so_wS {I : so_I} (h : so_w0 I ∈ so_Ts) : so_wP (some I) := fun J e => by cases e; exact h
theorem so_hW (x : Nat) (J : so_I) (h : so_mi x = some J) : so_w0 J ∈ so_Ts := (show so_wP (so_mi x) from (so_wB (so_wB (so_wB (so_wB (so_wB (so_wB (so_wB (so_wB (so_wS so_ww0) (so_wS so_ww1)) (so_wB (so_wS so_ww2) (so_wS so_ww3))) (so_wB (so_wB (so_wS so_ww4) (so_wS so_ww5)) (so_wB so_wN (so_wB (so_wS so_ww7) (so_wS so_ww8))))) (so_wB (so_wB (so_wB (so_wS so_ww9) (so_wS so_ww10)) (so_wB (so_wS so_ww11) (so_wB (so_wS so_ww12) (so_wS so_ww13)))) (so_wB (so_wB (so_wS so_ww14) (so_wS so_ww15)) (so_wB (so_wS so_ww16) (so_wB (so_wS so_ww17) (so_wS so_ww18)))))) (so_wB (so_wB (so_wB (so_wB (so_wS so_ww19) (so_wS so_ww20)) (so_wB (so_wS so_ww21) (so_wS so_ww22))) (so_wB (so_wB (so_wS so_ww23) (so_wS so_ww24)) (so_wB (so_wS so_ww25) (so_wB (so_wS so_ww26) (so_wS so_ww27))))) (so_wB (so_wB (so_wB (so_wS so_ww28) (so_wS so_ww29)) (so_wB (so_wS so_ww30) (so_wB (so_wS so_ww31) (so_wS so_ww32)))) (so_wB (so_wB (so_wS so_ww33) (so_wS so_ww34)) (so_wB (so_wS so_ww35) (so_wB (so_wS so_ww36) (so_wS so_ww37))))))) (so_wB (so_wB (so_wB (so_wB (so_wB (so_wS so_ww38) (so_wS so_ww39)) (so_wB (so_wS so_ww40) (so_wS so_ww41))) (so_wB (so_wB (so_wS so_ww42) so_wN) (so_wB so_wN (so_wB so_wN so_wN)))) (so_wB (so_wB (so_wB (so_wS so_ww47) so_wN) (so_wB (so_wS so_ww49) (so_wB (so_wS so_ww50) so_wN))) (so_wB (so_wB (so_wS so_ww52) (so_wS so_ww53)) (so_wB so_wN (so_wB (so_wS so_ww55) (so_wS so_ww56)))))) (so_wB (so_wB (so_wB (so_wB (so_wS so_ww57) (so_wS so_ww58)) (so_wB (so_wS so_ww59) (so_wB (so_wS so_ww60) (so_wS so_ww61)))) (so_wB (so_wB (so_wS so_ww62) so_wN) (so_wB (so_wS so_ww64) (so_wB so_wN (so_wS so_ww66))))) (so_wB (so_wB (so_wB (so_wS so_ww67) so_wN) (so_wB (so_wS so_ww69) (so_wB so_wN so_wN))) (so_wB (so_wB so_wN (so_wS so_ww73)) (so_wB so_wN (so_wB so_wN (so_wS so_ww76)))))))) (so_wB (so_wB (so_wB (so_wB (so_wB (so_wB so_wN (so_wS so_ww78)) (so_wB (so_wS so_ww79) so_wN)) (so_wB (so_wB (so_wS so_ww81) (so_wS so_ww82)) (so_wB (so_wS so_ww83) (so_wB (so_wS so_ww84) (so_wS so_ww85))))) (so_wB (so_wB (so_wB (so_wS so_ww86) so_wN) (so_wB so_wN (so_wB so_wN so_wN))) (so_wB (so_wB (so_wS so_ww91) so_wN) (so_wB (so_wS so_ww93) (so_wB so_wN so_wN))))) (so_wB (so_wB (so_wB (so_wB so_wN so_wN) (so_wB so_wN (so_wB (so_wS so_ww99) (so_wS so_ww100)))) (so_wB (so_wB (so_wS so_ww101) (so_wS so_ww102)) (so_wB so_wN (so_wB (so_wS so_ww104) (so_wS so_ww105))))) (so_wB (so_wB (so_wB (so_wS so_ww106) (so_wS so_ww107)) (so_wB (so_wS so_ww108) (so_wB (so_wS so_ww109) (so_wS so_ww110)))) (so_wB (so_wB (so_wS so_ww111) so_wN) (so_wB so_wN (so_wB (so_wS so_ww114) so_wN)))))) (so_wB (so_wB (so_wB (so_wB (so_wB so_wN so_wN) (so_wB (so_wS so_ww118) so_wN)) (so_wB (so_wB (so_wS so_ww120) (so_wS so_ww121)) (so_wB (so_wS so_ww122) (so_wB (so_wS so_ww123) (so_wS so_ww124))))) (so_wB (so_wB (so_wB (so_wS so_ww125) (so_wS so_ww126)) (so_wB (so_wS so_ww127) (so_wB (so_wS so_ww128) (so_wS so_ww129)))) (so_wB (so_wB (so_wS so_ww130) (so_wS so_ww131)) (so_wB (so_wS so_ww132) (so_wB (so_wS so_ww133) (so_wS so_ww134)))))) (so_wB (so_wB (so_wB (so_wB (so_wS so_ww135) so_wN) (so_wB (so_wS so_ww137) (so_wB (so_wS so_ww138) (so_wS so_ww139)))) (so_wB (so_wB (so_wS so_ww140) (so_wS so_ww141)) (so_wB (so_wS so_ww142) (so_wB (so_wS so_ww143) (so_wS so_ww144))))) (so_wB (so_wB (so_wB (so_wS so_ww145) so_wN) (so_wB (so_wS so_ww147) (so_wB (so_wS so_ww148) (so_wS so_ww149)))) (so_wB (so_wB (so_wS so_ww150) (so_wS so_ww151)) (so_wB so_wN (so_wB so_wN (so_wS so_ww154))))))))) (so_wB (so_wB (so_wB (so_wB (so_wB (so_wB (so_wB (so_wS so_ww155) (so_wS so_ww156)) (so_wB (so_wS so_ww157) (so_wS so_ww158))) (so_wB (so_wB (so_wS so_ww159) (so_wS so_ww160)) (so_wB (so_wS so_ww161) (so_wB (so_wS so_ww162) (so_wS so_ww163))))) (so_wB (so_wB (so_wB (so_wS so_ww164) so_wN) (so_wB so_wN (so_wB (so_wS so_ww167) so_wN))) (so_wB (so_wB (so_wS so_ww169) (so_wS so_ww170)) (so_wB (so_wS so_ww171) (so_wB (so_wS so_ww172) (so_wS so_ww173)))))) (so_wB (so_wB (so_wB (so_wB (so_wS so_ww174) (so_wS so_ww175)) (so_wB (so_wS so_ww176) (so_wS so_ww177))) (so_wB (so_wB (so_wS so_ww178) (so_wS so_ww179)) (so_wB so_wN (so_wB so_wN so_wN)))) (so_wB (so_wB (so_wB so_wN so_wN) (so_wB so_wN (so_wB (so_wS so_ww186) (so_wS so_ww187)))) (so_wB (so_wB (so_wS so_ww188) so_wN) (so_wB so_wN (so_wB so_wN (so_wS so_ww192))))))) (so_wB (so_wB (so_wB (so_wB (so_wB so_wN (so_wS so_ww194)) (so_wB (so_wS so_ww195) so_wN)) (so_wB (so_wB (so_wS so_ww197) (so_wS so_ww198)) (so_wB (so_wS so_ww199) (so_wB (so_wS so_ww200) (so_wS so_ww201))))) (so_wB (so_wB (so_wB (so_wS so_ww202) (so_wS so_ww203)) (so_wB so_wN (so_wB so_wN (so_wS so_ww206)))) (so_wB (so_wB (so_wS so_ww207) (so_wS so_ww208)) (so_wB (so_wS so_ww209) (so_wB so_wN (so_wS so_ww211)))))) (so_wB (so_wB (so_wB (so_wB (so_wS so_ww212) (so_wS so_ww213)) (so_wB so_wN (so_wB so_wN so_wN))) (so_wB (so_wB so_wN (so_wS so_ww218)) (so_wB so_wN (so_wB so_wN so_wN)))) (so_wB (so_wB (so_wB (so_wS so_ww222) (so_wS so_ww223)) (so_wB (so_wS so_ww224) (so_wB (so_wS so_ww225) (so_wS so_ww226)))) (so_wB (so_wB (so_wS so_ww227) (so_wS so_ww228)) (so_wB so_wN (so_wB so_wN so_wN))))))) (so_wB (so_wB (so_wB (so_wB (so_wB (so_wB so_wN so_wN) (so_wB so_wN so_wN)) (so_wB (so_wB so_wN so_wN) (so_wB so_wN (so_wB so_wN so_wN)))) (so_wB (so_wB (so_wB so_wN so_wN) (so_wB so_wN (so_wB (so_wS so_ww244) so_wN))) (so_wB (so_wB (so_wS so_ww246) (so_wS so_ww247)) (so_wB so_wN (so_wB (so_wS so_ww249) (so_wS so_ww250)))))) (so_wB (so_wB (so_wB (so_wB (so_wS so_ww251) so_wN) (so_wB so_wN (so_wB so_wN so_wN))) (so_wB (so_wB so_wN so_wN) (so_wB so_wN (so_wB (so_wS so_ww259) (so_wS so_ww260))))) (so_wB (so_wB (so_wB (so_wS so_ww261) (so_wS so_ww262)) (so_wB so_wN (so_wB so_wN (so_wS so_ww265)))) (so_wB (so_wB (so_wS so_ww266) (so_wS so_ww267)) (so_wB (so_wS so_ww268) (so_wB (so_wS so_ww269) (so_wS so_ww270))))))) (so_wB (so_wB (so_wB (so_wB (so_wB (so_wS so_ww271) so_wN) (so_wB so_wN so_wN)) (so_wB (so_wB so_wN so_wN) (so_wB (so_wS so_ww277) (so_wB so_wN (so_wS so_ww279))))) (so_wB (so_wB (so_wB (so_wS so_ww280) (so_wS so_ww281)) (so_wB (so_wS so_ww282) (so_wB (so_wS so_ww283) (so_wS so_ww284)))) (so_wB (so_wB (so_wS so_ww285) (so_wS so_ww286)) (so_wB (so_wS so_ww287) (so_wB (so_wS so_ww288) (so_wS so_ww289)))))) (so_wB (so_wB (so_wB (so_wB (so_wS so_ww290) (so_wS so_ww291)) (so_wB (so_wS so_ww292) (so_wB (so_wS so_ww293) (so_wS so_ww294)))) (so_wB (so_wB (so_wS so_ww295) (so_wS so_ww296)) (so_wB (so_wS so_ww297) (so_wB (so_wS so_ww298) (so_wS so_ww299))))) (so_wB (so_wB (so_wB (so_wS so_ww300) (so_wS so_ww301)) (so_wB (so_wS so_ww302) (so_wB (so_wS so_ww303) (so_wS so_ww304)))) (so_wB (so_wB (so_wS so_ww305) (so_wS so_ww306)) (so_wB so_wN (so_wB so_wN (so_wS so_ww309))))))))))) J h
def so_B1 : List Cond := so_pick tables_1 [43, 114, 127, 205, 288, 324, 378, 472, 473, 474, 475, 476, 477, 478, 586, 630] ++ [Cond.castable (so_ex 0) (so_ex 0), Cond.castable (so_ex 1) (so_ex 1), Cond.castable (so_ex 2) (so_ex 2)]
theorem so_B1_in : ∀ w ∈ so_B1, w ∈ so_Bs := so_bin _ (by decide +kernel)
theorem so_kl0 : so_kl so_Ts so_rows 0 := fun q hq => by
  cases hq
  exact so_klq (T1 := so_pick (k2_sels lw_privs) [] ++ so_pick tables_1 [382, 384, 386]) (so_tin _ _ (by decide +kernel)) (by decide +kernel) (by decide +kernel) (by decide +kernel)
theorem so_kl1 : so_kl so_Ts so_rows 1 := fun q hq => by
  cases hq
  exact so_klq (T1 := so_pick (k2_sels lw_privs) [] ++ so_pick tables_1 [274, 276, 278]) (so_tin _ _ (by decide +kernel)) (by decide +kernel) (by decide +kernel) (by decide +kernel)
theorem so_kl2 : so_kl so_Ts so_rows 2 := fun q hq => by
  cases hq
  exact so_klq (T1 := so_pick (k2_sels lw_privs) [] ++ so_pick tables_1 [246, 248, 250, 252, 254, 256, 258, 260, 262]) (so_tin _ _ (by decide +kernel)) (by decide +kernel) (by decide +kernel) (by decide +kernel)
theorem so_kl3 : so_kl so_Ts so_rows 3 := fun q hq => by
  cases hq
  exact so_klq (T1 := so_pick (k2_sels lw_privs) [] ++ so_pick tables_1 [49, 51]) (so_tin _ _ (by decide +kernel)) (by decide +kernel) (by decide +kernel) (by decide +kernel)
theorem so_kl4 : so_kl so_Ts so_rows 4 := fun q hq => by
  cases hq
  exact so_klq (T1 := so_pick (k2_sels lw_privs) [] ++ so_pick tables_1 [340, 342, 344, 346, 348, 350, 352, 354, 356, 358, 360, 362, 364, 366, 368]) (so_tin _ _ (by decide +kernel)) (by decide +kernel) (by decide +kernel) (by decide +kernel)
theorem so_kl5 : so_kl so_Ts so_rows 5 := fun q hq => by
  cases hq
  exact so_klq (T1 := so_pick (k2_sels lw_privs) [] ++ so_pick tables_1 [76, 78, 80, 82, 84, 86, 88, 90, 92, 94, 96, 98, 100, 102, 104, 106, 108, 110]) (so_tin _ _ (by decide +kernel)) (by decide +kernel) (by decide +kernel) (by decide +kernel)
theorem so_kl6 : so_kl so_Ts so_rows 6 := fun q hq => by
  cases hq
  exact so_klq (T1 := so_pick (k2_sels lw_privs) [] ++ so_pick tables_1 [222, 224, 226, 228]) (so_tin _ _ (by decide +kernel)) (by decide +kernel) (by decide +kernel) (by decide +kernel)
theorem so_kl7 : so_kl so_Ts so_rows 7 := fun q hq => by
  cases hq
  exact so_klq (T1 := so_pick (k2_sels lw_privs) [] ++ so_pick tables_1 [298, 300, 302, 304, 306, 308, 310, 312, 314]) (so_tin _ _ (by decide +kernel)) (by decide +kernel) (by decide +kernel) (by decide +kernel)
theorem so_kl8 : so_kl so_Ts so_rows 8 := fun q hq => by
  cases hq
  exact so_klq (T1 := so_pick (k2_sels lw_privs) [] ++ so_pick tables_1 [186, 188, 190, 192]) (so_tin _ _ (by decide +kernel)) (by decide +kernel) (by decide +kernel) (by decide +kernel)
theorem so_kl9 : so_kl so_Ts so_rows 9 := fun q hq => by
  cases hq
  exact so_klq (T1 := so_pick (k2_sels lw_privs) [] ++ so_pick tables_1 [424, 426, 428, 430, 432, 434, 436, 438]) (so_tin _ _ (by decide +kernel)) (by decide +kernel) (by decide +kernel) (by decide +kernel)
theorem so_kl10 : so_kl so_Ts so_rows 10 := fun q hq => by
  cases hq
  exact so_klq (T1 := so_pick (k2_sels lw_privs) [] ++ so_pick tables_1 [1409, 1411, 1413, 1415, 1417, 1419, 1421, 1423, 1425, 1427, 1429, 1431, 1433, 1435, 1437, 1439, 1441, 1443, 1445, 1447, 1449, 1451, 1453, 1455, 1457, 1459, 1461, 1463, 1465, 1467, 1469, 1471, 1473, 1475, 1477, 1479, 1481, 1483, 1485, 1487, 1489, 1491, 1493, 1495, 1497, 1499, 1501, 1503, 1505, 1507, 1509]) (so_tin _ _ (by decide +kernel)) (by decide +kernel) (by decide +kernel) (by decide +kernel)
theorem so_kla : ∀ x, so_kl so_Ts so_rows x := by
  intro x
  by_cases hx : x < 11
  · have : x = 0 ∨ x = 1 ∨ x = 2 ∨ x = 3 ∨ x = 4 ∨ x = 5 ∨ x = 6 ∨ x = 7 ∨ x = 8 ∨ x = 9 ∨ x = 10 := by omega
    rcases this with rfl | rfl | rfl | rfl | rfl | rfl | rfl | rfl | rfl | rfl | rfl
    · exact so_kl0
    · exact so_kl1
    · exact so_kl2
    · exact so_kl3
    · exact so_kl4
    · exact so_kl5
    · exact so_kl6
    · exact so_kl7
    · exact so_kl8
    · exact so_kl9
    · exact so_kl10
  · intro q hq
    have : so_rows[x]? = none := List.getElem?_eq_none (by show 11 ≤ x; omega)
    rw [this] at hq
    cases hq
