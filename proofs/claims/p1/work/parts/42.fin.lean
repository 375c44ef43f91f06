/-! ===== every script of at most six ints ===== -/
section SMF
def so_wt (scr : List Nat) (v : Nat) : Nat := scr.getD ((v - 17179869184) / 4) 0
section
variable {scr : List Nat} {ws : Nat → Nat} {a b v w c d n : Nat} {fs : so_Q}
theorem so_hq8 (h1 : so_nth scr (a / 4) = some w) (h2 : 4 * w = so_sb ws v) : so_hq scr ws (8, a, b, v) := ⟨fun _ => ⟨w, h1, h2⟩, fun h => absurd (show (8 : Nat) = 27 from h) (by decide), fun h => absurd (show (8 : Nat) = 35 from h) (by decide), fun d h => by have h : 8 = 100 + d := h; omega⟩
theorem so_hq27 (h1 : 4 * so_len scr = v) : so_hq scr ws (27, a, b, v) := ⟨fun h => absurd (show (27 : Nat) = 8 from h) (by decide), fun _ => h1, fun h => absurd (show (27 : Nat) = 35 from h) (by decide), fun d h => by have h : 27 = 100 + d := h; omega⟩
theorem so_hq35 (h1 : 4 * Nat.land (so_sb ws a / 4) (so_sb ws b / 4) = v) : so_hq scr ws (35, a, b, v) := ⟨fun h => absurd (show (35 : Nat) = 8 from h) (by decide), fun h => absurd (show (35 : Nat) = 27 from h) (by decide), fun _ => h1, fun d h => by have h : 35 = 100 + d := h; omega⟩
theorem so_hqc (ha : so_sb ws a = 4 * w) (hb : so_sb ws b = 4 * c) (h1 : so_cnd d w c = Nat.beq v 1) : so_hq scr ws (100 + d, a, b, v) := by
  refine ⟨fun h => ?_, fun h => ?_, fun h => ?_, fun d' h => ?_⟩
  · have h : 100 + d = 8 := h; omega
  · have h : 100 + d = 27 := h; omega
  · have h : 100 + d = 35 := h; omega
  · have h : 100 + d = 100 + d' := h
    have e : d = d' := by omega
    subst e
    show so_cnd d (so_sb ws a / 4) (so_sb ws b / 4) = Nat.beq v 1
    rw [ha, hb, Nat.mul_div_cancel_left _ (by decide), Nat.mul_div_cancel_left _ (by decide)]
    exact h1
/-- the run to its end is good -/
def so_good (scr : List Nat) : Prop := ∃ m h' c s, so_run (so_ops scr) so_code so_tab m 60 306 so_c306 0 [(0, 1)] [] so_h0 0 0 = some (.inl (some 4), h', c, s) ∧ c ≤ 600002 ∧ s ≤ 7302232
theorem so_ctor (scr : List Nat) (z : so_J) : so_go (so_ops scr) so_code so_tab z (15042 + (20000 + (20000 + (20000 + 20000)))) 306 so_c306 0 [(0, 1)] [] [] so_h0 0 0 = z 306 so_c306 26 so_LV so_ST [] so_hC 99 379187 := by
  have h := so_thop (scr := scr) (fs := []) (ws := fun _ => 0) (code := so_code) (tab := so_tab) (fun e he => by cases he) (k := 306) (cd := so_c306) (pc := 26) (lv := so_LV) (st := so_ST) (K := []) (h := so_hC) (c := 99) (s := 379187) (k0 := 306) (cd0 := so_c306) (pc0 := 0) (lv0 := [(0, 1)]) (st0 := []) (K0 := []) (h0 := so_h0) (c0 := 0) (s0 := 0) (n := (15042 + (20000 + (20000 + (20000 + 20000))))) rfl rfl (by rw [so_ctorT]; decide +kernel) z
  exact h
theorem so_leaf (h : so_fin (so_fg fs n) = true) (hf : ∀ e ∈ fs, so_hq scr ws e) : so_good scr := by
  obtain ⟨h', c, s, h1, h2, h3⟩ := so_fin_at h
  have h1 : so_go (so_opsT fs) so_code so_tab so_zf n 306 so_c306 26 so_LV so_ST [] so_hC 99 379187 = some (.inr (.inl (some 4), h', c, s)) := h1
  have h4 := so_tend (ws := ws) (code := so_code) (tab := so_tab) hf (k0 := 306) (cd0 := so_c306) rfl h1
  have e1 : so_sv ws so_LV = so_LV := rfl
  have e2 : so_ss ws so_ST = so_ST := rfl
  have e3 : so_sK ws [] = [] := rfl
  have e4 : so_sR ws (.inl (some 4)) = .inl (some 4) := rfl
  rw [e1, e2, e3, e4] at h4
  have h5 : so_go (so_ops scr) so_code so_tab so_zf (n + (15042 + (20000 + (20000 + (20000 + 20000))))) 306 so_c306 0 [(0, 1)] [] [] so_h0 0 0 = some (.inr (.inl (some 4), h', c, s)) := by
    rw [so_go_add, so_ctor]
    exact h4
  obtain ⟨m, hm⟩ := so_nested rfl h5
  exact ⟨m, h', c, s, hm, h2, h3⟩
theorem so_two {T n1 n0 : Nat} (hT : so_sb ws T = 4 * w) (hf : ∀ e ∈ fs, so_hq scr ws e) (h1 : so_fin (so_fg ((102, T, 0, 1) :: fs) n1) = true) (h0 : so_fin (so_fg ((102, T, 0, 0) :: (103, T, 0, 1) :: fs) n0) = true) : so_good scr := by
  have hz : so_sb ws 0 = 4 * 0 := rfl
  cases hc : so_cnd 2 w 0 with
  | true => exact so_leaf h1 (List.forall_mem_cons.mpr ⟨so_hqc (d := 2) hT hz hc, hf⟩)
  | false =>
    have h3 : so_cnd 3 w 0 = true := by
      show (!(so_cnd 2 w 0)) = true
      rw [hc]
      rfl
    exact so_leaf h0 (List.forall_mem_cons.mpr ⟨so_hqc (d := 2) hT hz hc, List.forall_mem_cons.mpr ⟨so_hqc (d := 3) hT hz h3, hf⟩⟩)
theorem so_ltN {a b : Nat} (h : so_cnd 2 a b = true) : so_sg a < so_sg b := so_blt.mp h
theorem so_ltF {a b : Nat} (h : so_cnd 2 a b = false) : so_sg b ≤ so_sg a := by
  refine Nat.le_of_not_lt (fun z => ?_)
  have : so_cnd 2 a b = true := so_blt.mpr z
  rw [h] at this
  cases this
theorem so_sgw {w : Nat} (hw : w < 4294967296) : (w < 2147483648 ∧ so_sg w = w + 2147483648) ∨ (2147483648 ≤ w ∧ so_sg w = w - 2147483648) := by
  have : so_sg w = (w + 2147483648) % 4294967296 := rfl
  rw [this]
  omega
end
variable {w0 w1 w2 w3 w4 w5 k v1 : Nat}
theorem so_fbq (hk : Nat.land w0 31 = k) (h1 : 4 * w1 = so_sb (so_wt [w0, w1, w2, w3, w4, w5]) v1) : ∀ e ∈ so_fb (4 * k) v1, so_hq [w0, w1, w2, w3, w4, w5] (so_wt [w0, w1, w2, w3, w4, w5]) e := by
  intro e he
  unfold so_fb at he
  simp only [List.mem_cons, List.not_mem_nil, or_false] at he
  rcases he with rfl | rfl | rfl | rfl | rfl | rfl | rfl | rfl
  · exact so_hq27 rfl
  · exact so_hq8 (w := w0) rfl rfl
  · refine so_hq35 ?_
    have e1 : so_sb (so_wt [w0, w1, w2, w3, w4, w5]) 17179869184 = 4 * w0 := rfl
    have e2 : so_sb (so_wt [w0, w1, w2, w3, w4, w5]) 124 = 124 := rfl
    have e3 : 124 / 4 = 31 := rfl
    rw [e1, e2, e3, Nat.mul_div_cancel_left _ (by decide), hk]
  · exact so_hq8 (w := w1) rfl h1
  · exact so_hq8 (w := w2) rfl rfl
  · exact so_hq8 (w := w3) rfl rfl
  · exact so_hq8 (w := w4) rfl rfl
  · exact so_hq8 (w := w5) rfl rfl
theorem so_t1 : so_sb (so_wt [w0, w1, w2, w3, w4, w5]) 17179869188 = 4 * w1 := rfl
theorem so_t2x : so_sb (so_wt [w0, w1, w2, w3, w4, w5]) 17179869192 = 4 * w2 := rfl
theorem so_z0w {ws : Nat → Nat} : so_sb ws 0 = 4 * 0 := rfl
theorem so_op2 (hk : Nat.land w0 31 = 2) (hw : w1 < 4294967296) : so_good [w0, w1, w2, w3, w4, w5] := so_two (ws := so_wt [w0, w1, w2, w3, w4, w5]) (w := w2) so_t2x (so_fbq (k := 2) hk rfl) so_l2_1 so_l2_0
theorem so_op3 (hk : Nat.land w0 31 = 3) (hw : w1 < 4294967296) : so_good [w0, w1, w2, w3, w4, w5] := so_two (ws := so_wt [w0, w1, w2, w3, w4, w5]) (w := w2) so_t2x (so_fbq (k := 3) hk rfl) so_l3_1 so_l3_0
theorem so_op4 (hk : Nat.land w0 31 = 4) (hw : w1 < 4294967296) : so_good [w0, w1, w2, w3, w4, w5] := so_two (ws := so_wt [w0, w1, w2, w3, w4, w5]) (w := w1) so_t1 (so_fbq (k := 4) hk rfl) so_l4_1 so_l4_0
theorem so_op5 (hk : Nat.land w0 31 = 5) (hw : w1 < 4294967296) : so_good [w0, w1, w2, w3, w4, w5] := so_two (ws := so_wt [w0, w1, w2, w3, w4, w5]) (w := w1) so_t1 (so_fbq (k := 5) hk rfl) so_l5_1 so_l5_0
theorem so_op6 (hk : Nat.land w0 31 = 6) (hw : w1 < 4294967296) : so_good [w0, w1, w2, w3, w4, w5] := so_two (ws := so_wt [w0, w1, w2, w3, w4, w5]) (w := w1) so_t1 (so_fbq (k := 6) hk rfl) so_l6_1 so_l6_0
theorem so_op7 (hk : Nat.land w0 31 = 7) (hw : w1 < 4294967296) : so_good [w0, w1, w2, w3, w4, w5] := so_two (ws := so_wt [w0, w1, w2, w3, w4, w5]) (w := w1) so_t1 (so_fbq (k := 7) hk rfl) so_l7_1 so_l7_0
theorem so_op8 (hk : Nat.land w0 31 = 8) (hw : w1 < 4294967296) : so_good [w0, w1, w2, w3, w4, w5] := so_two (ws := so_wt [w0, w1, w2, w3, w4, w5]) (w := w1) so_t1 (so_fbq (k := 8) hk rfl) so_l8_1 so_l8_0
theorem so_op9 (hk : Nat.land w0 31 = 9) (hw : w1 < 4294967296) : so_good [w0, w1, w2, w3, w4, w5] := so_two (ws := so_wt [w0, w1, w2, w3, w4, w5]) (w := w1) so_t1 (so_fbq (k := 9) hk rfl) so_l9_1 so_l9_0
theorem so_op10 (hk : Nat.land w0 31 = 10) (hw : w1 < 4294967296) : so_good [w0, w1, w2, w3, w4, w5] := so_two (ws := so_wt [w0, w1, w2, w3, w4, w5]) (w := w1) so_t1 (so_fbq (k := 10) hk rfl) so_l10_1 so_l10_0
theorem so_op11 (hk : Nat.land w0 31 = 11) (hw : w1 < 4294967296) : so_good [w0, w1, w2, w3, w4, w5] := so_two (ws := so_wt [w0, w1, w2, w3, w4, w5]) (w := w1) so_t1 (so_fbq (k := 11) hk rfl) so_l11_1 so_l11_0
theorem so_op12 (hk : Nat.land w0 31 = 12) (hw : w1 < 4294967296) : so_good [w0, w1, w2, w3, w4, w5] := so_two (ws := so_wt [w0, w1, w2, w3, w4, w5]) (w := w1) so_t1 (so_fbq (k := 12) hk rfl) so_l12_1 so_l12_0
theorem so_op13 (hk : Nat.land w0 31 = 13) (hw : w1 < 4294967296) : so_good [w0, w1, w2, w3, w4, w5] := so_two (ws := so_wt [w0, w1, w2, w3, w4, w5]) (w := w1) so_t1 (so_fbq (k := 13) hk rfl) so_l13_1 so_l13_0
theorem so_op14 (hk : Nat.land w0 31 = 14) (hw : w1 < 4294967296) : so_good [w0, w1, w2, w3, w4, w5] := so_two (ws := so_wt [w0, w1, w2, w3, w4, w5]) (w := w1) so_t1 (so_fbq (k := 14) hk rfl) so_l14_1 so_l14_0
theorem so_op15 (hk : Nat.land w0 31 = 15) (hw : w1 < 4294967296) : so_good [w0, w1, w2, w3, w4, w5] := so_two (ws := so_wt [w0, w1, w2, w3, w4, w5]) (w := w1) so_t1 (so_fbq (k := 15) hk rfl) so_l15_1 so_l15_0
theorem so_op16 (hk : Nat.land w0 31 = 16) (hw : w1 < 4294967296) : so_good [w0, w1, w2, w3, w4, w5] := so_two (ws := so_wt [w0, w1, w2, w3, w4, w5]) (w := w1) so_t1 (so_fbq (k := 16) hk rfl) so_l16_1 so_l16_0
theorem so_op17 (hk : Nat.land w0 31 = 17) (hw : w1 < 4294967296) : so_good [w0, w1, w2, w3, w4, w5] := so_two (ws := so_wt [w0, w1, w2, w3, w4, w5]) (w := w1) so_t1 (so_fbq (k := 17) hk rfl) so_l17_1 so_l17_0
theorem so_op18 (hk : Nat.land w0 31 = 18) (hw : w1 < 4294967296) : so_good [w0, w1, w2, w3, w4, w5] := so_two (ws := so_wt [w0, w1, w2, w3, w4, w5]) (w := w1) so_t1 (so_fbq (k := 18) hk rfl) so_l18_1 so_l18_0
theorem so_op19 (hk : Nat.land w0 31 = 19) (hw : w1 < 4294967296) : so_good [w0, w1, w2, w3, w4, w5] := so_two (ws := so_wt [w0, w1, w2, w3, w4, w5]) (w := w1) so_t1 (so_fbq (k := 19) hk rfl) so_l19_1 so_l19_0
theorem so_op20 (hk : Nat.land w0 31 = 20) (hw : w1 < 4294967296) : so_good [w0, w1, w2, w3, w4, w5] := so_two (ws := so_wt [w0, w1, w2, w3, w4, w5]) (w := w1) so_t1 (so_fbq (k := 20) hk rfl) so_l20_1 so_l20_0
theorem so_op22 (hk : Nat.land w0 31 = 22) (hw : w1 < 4294967296) : so_good [w0, w1, w2, w3, w4, w5] := so_two (ws := so_wt [w0, w1, w2, w3, w4, w5]) (w := w1) so_t1 (so_fbq (k := 22) hk rfl) so_l22_1 so_l22_0
theorem so_op23 (hk : Nat.land w0 31 = 23) (hw : w1 < 4294967296) : so_good [w0, w1, w2, w3, w4, w5] := so_two (ws := so_wt [w0, w1, w2, w3, w4, w5]) (w := w1) so_t1 (so_fbq (k := 23) hk rfl) so_l23_1 so_l23_0
theorem so_op24 (hk : Nat.land w0 31 = 24) (hw : w1 < 4294967296) : so_good [w0, w1, w2, w3, w4, w5] := so_two (ws := so_wt [w0, w1, w2, w3, w4, w5]) (w := w1) so_t1 (so_fbq (k := 24) hk rfl) so_l24_1 so_l24_0
theorem so_op25 (hk : Nat.land w0 31 = 25) (hw : w1 < 4294967296) : so_good [w0, w1, w2, w3, w4, w5] := so_leaf so_l25 (so_fbq hk rfl)
theorem so_op27 (hk : Nat.land w0 31 = 27) (hw : w1 < 4294967296) : so_good [w0, w1, w2, w3, w4, w5] := so_leaf so_l27 (so_fbq hk rfl)
theorem so_op28 (hk : Nat.land w0 31 = 28) (hw : w1 < 4294967296) : so_good [w0, w1, w2, w3, w4, w5] := so_two (ws := so_wt [w0, w1, w2, w3, w4, w5]) (w := w1) so_t1 (so_fbq (k := 28) hk rfl) so_l28_1 so_l28_0
theorem so_op29 (hk : Nat.land w0 31 = 29) (hw : w1 < 4294967296) : so_good [w0, w1, w2, w3, w4, w5] := so_leaf so_l29 (so_fbq hk rfl)
theorem so_op30 (hk : Nat.land w0 31 = 30) (hw : w1 < 4294967296) : so_good [w0, w1, w2, w3, w4, w5] := so_leaf so_l30 (so_fbq hk rfl)
theorem so_op31 (hk : Nat.land w0 31 = 31) (hw : w1 < 4294967296) : so_good [w0, w1, w2, w3, w4, w5] := so_leaf so_l31 (so_fbq hk rfl)
theorem so_op26 (hk : Nat.land w0 31 = 26) (hw : w1 < 4294967296) : so_good [w0, w1, w2, w3, w4, w5] := by
  have hf := so_fbq (w1 := w1) (w2 := w2) (w3 := w3) (w4 := w4) (w5 := w5) (v1 := 17179869188) hk rfl
  cases hc : so_cnd 2 w1 0 with
  | true =>
    have h3 : so_cnd 3 w1 0 = false := by
      show (!(so_cnd 2 w1 0)) = false
      rw [hc]
      rfl
    exact so_leaf so_l26_1 (List.forall_mem_cons.mpr ⟨so_hqc (d := 2) so_t1 so_z0w hc, List.forall_mem_cons.mpr ⟨so_hqc (d := 3) so_t1 so_z0w h3, hf⟩⟩)
  | false =>
    have h3 : so_cnd 3 w1 0 = true := by
      show (!(so_cnd 2 w1 0)) = true
      rw [hc]
      rfl
    cases hd : so_cnd 2 0 w1 with
    | true =>
      have h5 : so_cnd 5 w1 0 = false := by
        show (!(so_cnd 2 0 w1)) = false
        rw [hd]
        rfl
      exact so_leaf so_l26_3 (List.forall_mem_cons.mpr ⟨so_hqc (d := 2) so_t1 so_z0w hc, List.forall_mem_cons.mpr ⟨so_hqc (d := 3) so_t1 so_z0w h3, List.forall_mem_cons.mpr ⟨so_hqc (d := 5) so_t1 so_z0w h5, hf⟩⟩⟩)
    | false =>
      have h5 : so_cnd 5 w1 0 = true := by
        show (!(so_cnd 2 0 w1)) = true
        rw [hd]
        rfl
      have h1 : so_cnd 1 w1 0 = false := by
        show (!(Nat.beq (so_sg w1) (so_sg 0))) = false
        have e : so_sg w1 = so_sg 0 := Nat.le_antisymm (so_ltF hd) (so_ltF hc)
        rw [e, Nat.beq_refl]
        rfl
      exact so_leaf so_l26_2 (List.forall_mem_cons.mpr ⟨so_hqc (d := 2) so_t1 so_z0w hc, List.forall_mem_cons.mpr ⟨so_hqc (d := 3) so_t1 so_z0w h3, List.forall_mem_cons.mpr ⟨so_hqc (d := 5) so_t1 so_z0w h5, List.forall_mem_cons.mpr ⟨so_hqc (d := 1) so_t1 so_z0w h1, hf⟩⟩⟩⟩)
theorem so_op1 (hk : Nat.land w0 31 = 1) (hw : w1 < 4294967296) : so_good [w0, w1, w2, w3, w4, w5] := by
  have hf := so_fbq (w1 := w1) (w2 := w2) (w3 := w3) (w4 := w4) (w5 := w5) (v1 := 17179869188) hk rfl
  cases hc : so_cnd 2 w1 0 with
  | true => exact so_leaf so_l1_1 (List.forall_mem_cons.mpr ⟨so_hqc (d := 2) so_t1 so_z0w hc, hf⟩)
  | false =>
    cases hd : so_cnd 2 w1 3 with
    | false =>
      have h3 : so_cnd 3 w1 3 = true := by
        show (!(so_cnd 2 w1 3)) = true
        rw [hd]
        rfl
      exact so_leaf so_l1_2 (List.forall_mem_cons.mpr ⟨so_hqc (d := 2) so_t1 so_z0w hc, List.forall_mem_cons.mpr ⟨so_hqc (d := 3) (c := 3) so_t1 rfl h3, List.forall_mem_cons.mpr ⟨so_hqc (d := 2) (c := 3) so_t1 rfl hd, hf⟩⟩⟩)
    | true =>
      have l1 := so_ltF hc
      have l2 := so_ltN hd
      have g0 : so_sg 0 = 2147483648 := rfl
      have g3 : so_sg 3 = 2147483651 := rfl
      have l3 := so_sgw hw
      rw [g0] at l1
      rw [g3] at l2
      have l4 : w1 = 0 ∨ w1 = 1 ∨ w1 = 2 := by omega
      clear hf hc hd l1 l2 l3
      rcases l4 with rfl | rfl | rfl
      · exact so_leaf so_l1_a (so_fbq (k := 1) (v1 := 0) hk rfl)
      · exact so_leaf so_l1_b (so_fbq (k := 1) (v1 := 4) hk rfl)
      · exact so_two (w := w2) so_t2x (so_fbq (k := 1) (v1 := 8) hk rfl) so_l1_c1 so_l1_c0
theorem so_op21 (hk : Nat.land w0 31 = 21) (hw : w1 < 4294967296) : so_good [w0, w1, w2, w3, w4, w5] := by
  have hf := so_fbq (w1 := w1) (w2 := w2) (w3 := w3) (w4 := w4) (w5 := w5) (v1 := 17179869188) hk rfl
  cases hc : so_cnd 2 w1 0 with
  | true => exact so_leaf so_l21_1 (List.forall_mem_cons.mpr ⟨so_hqc (d := 2) so_t1 so_z0w hc, hf⟩)
  | false =>
    have g2 : so_sg 2 = 2147483650 := rfl
    have g3 : so_sg 3 = 2147483651 := rfl
    cases hd : so_cnd 2 2 w1 with
    | true =>
      have h5 : so_cnd 5 w1 2 = false := by
        show (!(so_cnd 2 2 w1)) = false
        rw [hd]
        rfl
      have h3 : so_cnd 2 w1 3 = false := by
        cases h9 : so_cnd 2 w1 3 with
        | false => rfl
        | true =>
          have l1 := so_ltN hd
          have l2 := so_ltN h9
          rw [g2] at l1
          rw [g3] at l2
          omega
      exact so_leaf so_l21_2 (List.forall_mem_cons.mpr ⟨so_hqc (d := 2) so_t1 so_z0w hc, List.forall_mem_cons.mpr ⟨so_hqc (d := 5) (c := 2) so_t1 rfl h5, List.forall_mem_cons.mpr ⟨so_hqc (d := 2) (c := 3) so_t1 rfl h3, hf⟩⟩⟩)
    | false =>
      have l1 := so_ltF hc
      have l2 := so_ltF hd
      have g0 : so_sg 0 = 2147483648 := rfl
      have l3 := so_sgw hw
      rw [g0] at l1
      rw [g2] at l2
      have l4 : w1 = 0 ∨ w1 = 1 ∨ w1 = 2 := by omega
      clear hf hc hd l1 l2 l3
      rcases l4 with rfl | rfl | rfl
      · exact so_leaf so_l21_a (so_fbq (k := 21) (v1 := 0) hk rfl)
      · exact so_leaf so_l21_b (so_fbq (k := 21) (v1 := 4) hk rfl)
      · exact so_leaf so_l21_c (so_fbq (k := 21) (v1 := 8) hk rfl)
theorem so_tvall : ∀ n, n < 1000 → so_tvq n = true := by
  intro n hn
  by_cases h0_1000 : n < 500
  · by_cases h0_500 : n < 250
    · by_cases h0_250 : n < 125
      · by_cases h0_125 : n < 50
        · by_cases h0_50 : n < 25
          · exact so_all_mem so_tv0 n (List.mem_range'_1.mpr ⟨by omega, by omega⟩)
          · exact so_all_mem so_tv25 n (List.mem_range'_1.mpr ⟨by omega, by omega⟩)
        · by_cases h50_125 : n < 75
          · exact so_all_mem so_tv50 n (List.mem_range'_1.mpr ⟨by omega, by omega⟩)
          · by_cases h75_125 : n < 100
            · exact so_all_mem so_tv75 n (List.mem_range'_1.mpr ⟨by omega, by omega⟩)
            · exact so_all_mem so_tv100 n (List.mem_range'_1.mpr ⟨by omega, by omega⟩)
      · by_cases h125_250 : n < 175
        · by_cases h125_175 : n < 150
          · exact so_all_mem so_tv125 n (List.mem_range'_1.mpr ⟨by omega, by omega⟩)
          · exact so_all_mem so_tv150 n (List.mem_range'_1.mpr ⟨by omega, by omega⟩)
        · by_cases h175_250 : n < 200
          · exact so_all_mem so_tv175 n (List.mem_range'_1.mpr ⟨by omega, by omega⟩)
          · by_cases h200_250 : n < 225
            · exact so_all_mem so_tv200 n (List.mem_range'_1.mpr ⟨by omega, by omega⟩)
            · exact so_all_mem so_tv225 n (List.mem_range'_1.mpr ⟨by omega, by omega⟩)
    · by_cases h250_500 : n < 375
      · by_cases h250_375 : n < 300
        · by_cases h250_300 : n < 275
          · exact so_all_mem so_tv250 n (List.mem_range'_1.mpr ⟨by omega, by omega⟩)
          · exact so_all_mem so_tv275 n (List.mem_range'_1.mpr ⟨by omega, by omega⟩)
        · by_cases h300_375 : n < 325
          · exact so_all_mem so_tv300 n (List.mem_range'_1.mpr ⟨by omega, by omega⟩)
          · by_cases h325_375 : n < 350
            · exact so_all_mem so_tv325 n (List.mem_range'_1.mpr ⟨by omega, by omega⟩)
            · exact so_all_mem so_tv350 n (List.mem_range'_1.mpr ⟨by omega, by omega⟩)
      · by_cases h375_500 : n < 425
        · by_cases h375_425 : n < 400
          · exact so_all_mem so_tv375 n (List.mem_range'_1.mpr ⟨by omega, by omega⟩)
          · exact so_all_mem so_tv400 n (List.mem_range'_1.mpr ⟨by omega, by omega⟩)
        · by_cases h425_500 : n < 450
          · exact so_all_mem so_tv425 n (List.mem_range'_1.mpr ⟨by omega, by omega⟩)
          · by_cases h450_500 : n < 475
            · exact so_all_mem so_tv450 n (List.mem_range'_1.mpr ⟨by omega, by omega⟩)
            · exact so_all_mem so_tv475 n (List.mem_range'_1.mpr ⟨by omega, by omega⟩)
  · by_cases h500_1000 : n < 750
    · by_cases h500_750 : n < 625
      · by_cases h500_625 : n < 550
        · by_cases h500_550 : n < 525
          · exact so_all_mem so_tv500 n (List.mem_range'_1.mpr ⟨by omega, by omega⟩)
          · exact so_all_mem so_tv525 n (List.mem_range'_1.mpr ⟨by omega, by omega⟩)
        · by_cases h550_625 : n < 575
          · exact so_all_mem so_tv550 n (List.mem_range'_1.mpr ⟨by omega, by omega⟩)
          · by_cases h575_625 : n < 600
            · exact so_all_mem so_tv575 n (List.mem_range'_1.mpr ⟨by omega, by omega⟩)
            · exact so_all_mem so_tv600 n (List.mem_range'_1.mpr ⟨by omega, by omega⟩)
      · by_cases h625_750 : n < 675
        · by_cases h625_675 : n < 650
          · exact so_all_mem so_tv625 n (List.mem_range'_1.mpr ⟨by omega, by omega⟩)
          · exact so_all_mem so_tv650 n (List.mem_range'_1.mpr ⟨by omega, by omega⟩)
        · by_cases h675_750 : n < 700
          · exact so_all_mem so_tv675 n (List.mem_range'_1.mpr ⟨by omega, by omega⟩)
          · by_cases h700_750 : n < 725
            · exact so_all_mem so_tv700 n (List.mem_range'_1.mpr ⟨by omega, by omega⟩)
            · exact so_all_mem so_tv725 n (List.mem_range'_1.mpr ⟨by omega, by omega⟩)
    · by_cases h750_1000 : n < 875
      · by_cases h750_875 : n < 800
        · by_cases h750_800 : n < 775
          · exact so_all_mem so_tv750 n (List.mem_range'_1.mpr ⟨by omega, by omega⟩)
          · exact so_all_mem so_tv775 n (List.mem_range'_1.mpr ⟨by omega, by omega⟩)
        · by_cases h800_875 : n < 825
          · exact so_all_mem so_tv800 n (List.mem_range'_1.mpr ⟨by omega, by omega⟩)
          · by_cases h825_875 : n < 850
            · exact so_all_mem so_tv825 n (List.mem_range'_1.mpr ⟨by omega, by omega⟩)
            · exact so_all_mem so_tv850 n (List.mem_range'_1.mpr ⟨by omega, by omega⟩)
      · by_cases h875_1000 : n < 925
        · by_cases h875_925 : n < 900
          · exact so_all_mem so_tv875 n (List.mem_range'_1.mpr ⟨by omega, by omega⟩)
          · exact so_all_mem so_tv900 n (List.mem_range'_1.mpr ⟨by omega, by omega⟩)
        · by_cases h925_1000 : n < 950
          · exact so_all_mem so_tv925 n (List.mem_range'_1.mpr ⟨by omega, by omega⟩)
          · by_cases h950_1000 : n < 975
            · exact so_all_mem so_tv950 n (List.mem_range'_1.mpr ⟨by omega, by omega⟩)
            · exact so_all_mem so_tv975 n (List.mem_range'_1.mpr ⟨by omega, by omega⟩)
theorem so_op0 (hk : Nat.land w0 31 = 0) (hw : w1 < 4294967296) : so_good [w0, w1, w2, w3, w4, w5] := by
  have hf := so_fbq (w1 := w1) (w2 := w2) (w3 := w3) (w4 := w4) (w5 := w5) (v1 := 17179869188) hk rfl
  cases hc : so_cnd 2 w1 0 with
  | true => exact so_leaf so_l0_1 (List.forall_mem_cons.mpr ⟨so_hqc (d := 2) so_t1 so_z0w hc, hf⟩)
  | false =>
    cases hd : so_cnd 2 w1 1000 with
    | false => exact so_leaf so_l0_2 (List.forall_mem_cons.mpr ⟨so_hqc (d := 2) so_t1 so_z0w hc, List.forall_mem_cons.mpr ⟨so_hqc (d := 2) (c := 1000) so_t1 rfl hd, hf⟩⟩)
    | true =>
      have l1 := so_ltF hc
      have l2 := so_ltN hd
      have g0 : so_sg 0 = 2147483648 := rfl
      have g3 : so_sg 1000 = 2147484648 := rfl
      have l3 := so_sgw hw
      rw [g0] at l1
      rw [g3] at l2
      have l4 : w1 < 1000 := by omega
      have h := so_tvall w1 l4
      unfold so_tvq at h
      rw [so_fn_eq] at h
      exact so_leaf h (so_fbq (k := 0) (v1 := 4 * w1) hk (st_nt (st_lt (by omega))).symm)
theorem so_six (hw : w1 < 4294967296) : so_good [w0, w1, w2, w3, w4, w5] := by
  have hk : Nat.land w0 31 < 32 := Nat.and_lt_two_pow (n := 5) w0 (by decide)
  generalize hk0 : Nat.land w0 31 = k at hk
  by_cases h0_32 : k < 16
  · by_cases h0_16 : k < 8
    · by_cases h0_8 : k < 4
      · by_cases h0_4 : k < 2
        · by_cases h0_2 : k < 1
          · have e : k = 0 := by omega
            subst e
            exact so_op0 hk0 hw
          · have e : k = 1 := by omega
            subst e
            exact so_op1 hk0 hw
        · by_cases h2_4 : k < 3
          · have e : k = 2 := by omega
            subst e
            exact so_op2 hk0 hw
          · have e : k = 3 := by omega
            subst e
            exact so_op3 hk0 hw
      · by_cases h4_8 : k < 6
        · by_cases h4_6 : k < 5
          · have e : k = 4 := by omega
            subst e
            exact so_op4 hk0 hw
          · have e : k = 5 := by omega
            subst e
            exact so_op5 hk0 hw
        · by_cases h6_8 : k < 7
          · have e : k = 6 := by omega
            subst e
            exact so_op6 hk0 hw
          · have e : k = 7 := by omega
            subst e
            exact so_op7 hk0 hw
    · by_cases h8_16 : k < 12
      · by_cases h8_12 : k < 10
        · by_cases h8_10 : k < 9
          · have e : k = 8 := by omega
            subst e
            exact so_op8 hk0 hw
          · have e : k = 9 := by omega
            subst e
            exact so_op9 hk0 hw
        · by_cases h10_12 : k < 11
          · have e : k = 10 := by omega
            subst e
            exact so_op10 hk0 hw
          · have e : k = 11 := by omega
            subst e
            exact so_op11 hk0 hw
      · by_cases h12_16 : k < 14
        · by_cases h12_14 : k < 13
          · have e : k = 12 := by omega
            subst e
            exact so_op12 hk0 hw
          · have e : k = 13 := by omega
            subst e
            exact so_op13 hk0 hw
        · by_cases h14_16 : k < 15
          · have e : k = 14 := by omega
            subst e
            exact so_op14 hk0 hw
          · have e : k = 15 := by omega
            subst e
            exact so_op15 hk0 hw
  · by_cases h16_32 : k < 24
    · by_cases h16_24 : k < 20
      · by_cases h16_20 : k < 18
        · by_cases h16_18 : k < 17
          · have e : k = 16 := by omega
            subst e
            exact so_op16 hk0 hw
          · have e : k = 17 := by omega
            subst e
            exact so_op17 hk0 hw
        · by_cases h18_20 : k < 19
          · have e : k = 18 := by omega
            subst e
            exact so_op18 hk0 hw
          · have e : k = 19 := by omega
            subst e
            exact so_op19 hk0 hw
      · by_cases h20_24 : k < 22
        · by_cases h20_22 : k < 21
          · have e : k = 20 := by omega
            subst e
            exact so_op20 hk0 hw
          · have e : k = 21 := by omega
            subst e
            exact so_op21 hk0 hw
        · by_cases h22_24 : k < 23
          · have e : k = 22 := by omega
            subst e
            exact so_op22 hk0 hw
          · have e : k = 23 := by omega
            subst e
            exact so_op23 hk0 hw
    · by_cases h24_32 : k < 28
      · by_cases h24_28 : k < 26
        · by_cases h24_26 : k < 25
          · have e : k = 24 := by omega
            subst e
            exact so_op24 hk0 hw
          · have e : k = 25 := by omega
            subst e
            exact so_op25 hk0 hw
        · by_cases h26_28 : k < 27
          · have e : k = 26 := by omega
            subst e
            exact so_op26 hk0 hw
          · have e : k = 27 := by omega
            subst e
            exact so_op27 hk0 hw
      · by_cases h28_32 : k < 30
        · by_cases h28_30 : k < 29
          · have e : k = 28 := by omega
            subst e
            exact so_op28 hk0 hw
          · have e : k = 29 := by omega
            subst e
            exact so_op29 hk0 hw
        · by_cases h30_32 : k < 31
          · have e : k = 30 := by omega
            subst e
            exact so_op30 hk0 hw
          · have e : k = 31 := by omega
            subst e
            exact so_op31 hk0 hw
theorem so_short {scr : List Nat} (n : Nat) {m : Nat} (h : scr.length = n) (hf : so_fin (so_fg [(27, 0, 0, 4 * n)] m) = true) : so_good scr := by
  refine so_leaf (ws := fun _ => 0) hf (fun e he => ?_)
  rw [List.mem_singleton] at he
  subst he
  exact so_hq27 (by rw [so_len_eq, h])
theorem so_all6 {scr : List Nat} (hl : scr.length ≤ 6) (hw : ∀ w ∈ scr, w < 4294967296) : so_good scr := by
  match scr, hl, hw with
  | [], _, _ => exact so_short 0 rfl so_ln0
  | [_], _, _ => exact so_short 1 rfl so_ln1
  | [_, _], _, _ => exact so_short 2 rfl so_ln2
  | [_, _, _], _, _ => exact so_short 3 rfl so_ln3
  | [_, _, _, _], _, _ => exact so_short 4 rfl so_ln4
  | [_, _, _, _, _], _, _ => exact so_short 5 rfl so_ln5
  | [w0, w1, w2, w3, w4, w5], _, hw => exact so_six (hw w1 (by simp))
  | _ :: _ :: _ :: _ :: _ :: _ :: _ :: _, hl, _ => exact absurd hl (by simp only [List.length_cons]; omega)
end SMF
