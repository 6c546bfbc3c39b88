/-- a world that a try on flock f may go back to -/
def RX (S : St) (f : Int) (V : Wd) : Prop := S 6 2 0 4 = V 0 0 ∧ S 6 2 0 5 = V 0 1 ∧ (∀ p, 0 ≤ p → p < V 0 0 → S 11 2 p 0 = V 1 p ∧ S 11 2 p 1 = V 2 p ∧ S 11 2 p 2 = V 3 p) ∧ (∀ g, 0 ≤ g → g < V 0 1 → S 12 2 g 0 = V 4 g ∧ (g ≠ f → S 12 2 g 1 = V 5 g) ∧ (V 6 g ≠ -1 → S 12 2 g 2 = V 6 g)) ∧ (∀ c, 0 ≤ c → c < 8 → S 9 2 0 c = V 7 c)
theorem RW.rx {S : St} {V : Wd} (h : RW S 2 V) (f : Int) : RX S f V := by
  obtain ⟨h1, h2, h3, h4, h5, h6, h7⟩ := h
  exact ⟨h1, h2, h5, fun g g0 g1 => ⟨(h6 g g0 g1).1, fun _ => (h6 g g0 g1).2.1, (h6 g g0 g1).2.2⟩, h7⟩
theorem goD_keep {F : Int → Bool} {V : Wd} {g : Int} (h : V 6 g ≠ -1) : goD F V 6 g = V 6 g := by
  rw [goD_6]
  exact goA_keep F V g h _
theorem RX.back {S : St} {f c : Int} {F : Int → Bool} {V : Wd} (h : RX S f (goD F (wu V 5 f c))) : RX S f V := by
  obtain ⟨h1, h2, h3, h4, h5⟩ := h
  have a0 : ∀ (r : Nat) (i : Int), r ≠ 6 → r ≠ 5 → ¬ (r = 0 ∧ i = 2) → goD F (wu V 5 f c) r i = V r i := fun r i q6 q5 q0 => by
    rw [goD_r F _ q6 q0, wu_r q5]
  have a5 : ∀ g, g ≠ f → goD F (wu V 5 f c) 5 g = V 5 g := fun g q => by rw [goD_r F _ (by decide) (by omega), wu_i q]
  rw [a0 0 0 (by decide) (by decide) (by decide)] at h1 h3
  rw [a0 0 1 (by decide) (by decide) (by decide)] at h2 h4
  refine ⟨h1, h2, fun p p0 p1 => ?_, fun g g0 g1 => ?_, fun x x0 x1 => ?_⟩
  · have := h3 p p0 p1
    rw [a0 1 p (by decide) (by decide) (by omega), a0 2 p (by decide) (by decide) (by omega), a0 3 p (by decide) (by decide) (by omega)] at this
    exact this
  · obtain ⟨b1, b2, b3⟩ := h4 g g0 g1
    rw [a0 4 g (by decide) (by decide) (by omega)] at b1
    refine ⟨b1, fun q => by rw [b2 q, a5 g q], fun q => ?_⟩
    have e : wu V 5 f c 6 g = V 6 g := wu_r (by decide)
    have k := goD_keep (F := F) (V := wu V 5 f c) (g := g) (by rw [e]; exact q)
    rw [e] at k
    rw [b3 (by rw [k]; exact q), k]
  · have := h5 x x0 x1
    rw [a0 7 x (by decide) (by decide) (by omega)] at this
    exact this
theorem RX.to {S : St} {f c : Int} {V : Wd} (h : RX S f V) (hd : S 6 2 0 6 = V 0 2) (he : S 6 2 0 7 = mk5 (eaQ V)) : RW (up S 12 2 f 1 c) 2 (wu V 5 f c) := by
  obtain ⟨h1, h2, h3, h4, h5⟩ := h
  have a0 : ∀ (r : Nat) (i : Int), r ≠ 5 → wu V 5 f c r i = V r i := fun r i q => wu_r q
  refine ⟨by rw [up_n (by omega), a0 _ _ (by decide)]; exact h1, by rw [up_n (by omega), a0 _ _ (by decide)]; exact h2, by rw [up_n (by omega), a0 _ _ (by decide)]; exact hd, ?_, fun p p0 p1 => ?_, fun g g0 g1 => ?_, fun x x0 x1 => ?_⟩
  · rw [up_n (by omega), he]
    refine mk5_c (fun j j0 j1 => ?_)
    unfold eaQ
    rw [a0 _ _ (by decide), a0 _ _ (by decide)]
  · rw [a0 _ _ (by decide)] at p1
    rw [up_n (by omega), up_n (by omega), up_n (by omega), a0 _ _ (by decide), a0 _ _ (by decide), a0 _ _ (by decide)]
    exact h3 p p0 p1
  · rw [a0 _ _ (by decide)] at g1
    obtain ⟨b1, b2, b3⟩ := h4 g g0 g1
    rw [up_n (by omega), a0 4 _ (by decide), a0 6 _ (by decide)]
    refine ⟨b1, ?_, fun q => by rw [up_n (by omega)]; exact b3 q⟩
    by_cases e : g = f
    · subst e
      rw [up_s, wu_s]
    · rw [up_n (by omega), wu_i e]
      exact b2 e
  · rw [up_n (by omega), a0 _ _ (by decide)]
    exact h5 x x0 x1
theorem RX.up {S : St} {f d e : Int} {V : Wd} (h : RX S f V) : RX (up (up S 6 2 0 6 d) 6 2 0 7 e) f V := by
  obtain ⟨h1, h2, h3, h4, h5⟩ := h
  refine ⟨by rw [up_n (by omega), up_n (by omega)]; exact h1, by rw [up_n (by omega), up_n (by omega)]; exact h2, fun p p0 p1 => ?_, fun g g0 g1 => ?_, fun x x0 x1 => ?_⟩
  · rw [up_n (by omega), up_n (by omega), up_n (by omega), up_n (by omega), up_n (by omega), up_n (by omega)]; exact h3 p p0 p1
  · rw [up_n (by omega), up_n (by omega), up_n (by omega), up_n (by omega), up_n (by omega), up_n (by omega)]; exact h4 g g0 g1
  · rw [up_n (by omega), up_n (by omega)]; exact h5 x x0 x1
theorem FrD_back (w : Nat) (S : St) (d e : Int) : FrD w S (up (up S 6 w 0 6 d) 6 w 0 7 e) := fun a b c x h => by
  rw [up_n (by omega), up_n (by omega)]
theorem FrD_cell (w : Nat) (S : St) (f c : Int) : FrD w S (up S 12 w f 1 c) := fun a b x y h => up_n (by omega)
def RBc (l : Launch) (G : GC) (F : Int → Bool) (n : Nat) : Prop := ∀ (σ : St) (V : Wd) (D f : Int), RW σ 2 V → WOk D V → D + n ≤ 900000 → RF σ F → 0 ≤ f → f < V 0 1 → Ct l (YC G) yX8_rowsBehind (.code yX8_rowsBehind cX8_rowsBehind 8 (some .int)) (2 * n + 3) [.ref (aC G 0 0 0), .int (iN f), .int (iN ((n : Nat) : Int))] σ (fun v σ' => v = some (.int (iN (gRows F f n V))) ∧ FrD 2 σ σ' ∧ RX σ' f V)
def RTc (l : Launch) (G : GC) (F : Int → Bool) (n : Nat) : Prop := ∀ (σ : St) (V : Wd) (D f c : Int), RX σ f V → σ 6 2 0 6 = V 0 2 → σ 6 2 0 7 = mk5 (eaQ V) → WOk D V → D + n + 1 ≤ 900000 → RF σ F → 0 ≤ f → f < V 0 1 → -2 ≤ c → c ≤ 9 → Ct l (YC G) yX8_rowsThrough (.code yX8_rowsThrough cX8_rowsThrough 4 (some .int)) (2 * n + 4) [.ref (aC G 0 0 0), .int (iN f), .int (iN c), .int (iN ((n + 1 : Nat) : Int))] σ (fun v σ' => v = some (.int (iN (gThr F f n V c))) ∧ FrD 2 σ σ' ∧ RX σ' f V)
theorem gThr_bd (F : Int → Bool) (f : Int) : ∀ n : Nat, (∀ V : Wd, 0 ≤ gRows F f n V ∧ gRows F f n V ≤ 3 ^ n) ∧ ∀ (V : Wd) (c : Int), 0 ≤ gThr F f n V c ∧ gThr F f n V c ≤ 3 ^ n
  | 0 => by
    refine ⟨fun V => by simp [gRows], fun V c => ?_⟩
    unfold gThr
    split
    · split
      · simp
      · simp [gRows]
    · simp
  | n + 1 => by
    have ih := gThr_bd F f n
    have hR : ∀ V : Wd, 0 ≤ gRows F f (n + 1) V ∧ gRows F f (n + 1) V ≤ 3 ^ (n + 1) := fun V => by
      have a := ih.2 V (V 5 f - 1)
      have b := ih.2 V (V 5 f)
      have c := ih.2 V (V 5 f + 1)
      have e : gRows F f (n + 1) V = gThr F f n V (V 5 f - 1) + gThr F f n V (V 5 f) + gThr F f n V (V 5 f + 1) := rfl
      rw [e, Int.pow_succ]
      omega
    refine ⟨hR, fun V c => ?_⟩
    have hp : (0 : Int) ≤ 3 ^ (n + 1) := Int.le_trans (hR V).1 (hR V).2
    unfold gThr
    split
    · split
      · exact ⟨by omega, hp⟩
      · exact hR _
    · exact ⟨by omega, hp⟩
theorem gRows_s (F : Int → Bool) (f : Int) (n : Nat) (V : Wd) : gRows F f (n + 1) V = gThr F f n V (V 5 f - 1) + gThr F f n V (V 5 f) + gThr F f n V (V 5 f + 1) := rfl
set_option maxHeartbeats 4000000 in
set_option maxRecDepth 10000 in
theorem c_X8_isCell (l : Launch) (G : GC) (σ : St) (c : Int) (hc : inR c) : Ct l (YC G) yX8_isCell (.code yX8_isCell cX8_isCell 1 (some .boolean)) 0 [.int (iN c)] σ (fun v σ' => v = some (.int (bI (decide (0 ≤ c ∧ c ≤ 7)))) ∧ σ' = σ) := by
  refine Ct_of (own := RX8) [some (.int (iN c))] rfl rfl (Nat.le_of_ble_eq_true rfl) rfl ?_
  intro E hE hM hl hR
  obtain ⟨c1, c2⟩ := hc
  refine x_iload_n (pc' := 1) hE dX8_isCell_0 rfl rfl ?_
  refine x_iflt (tgt := 14) (pc' := 4) hE dX8_isCell_1 (by decide) rfl ⟨by omega, by omega⟩ (fun h1 => ?_) (fun h1 => ?_)
  · refine x_iconst (pc' := 15) hE dX8_isCell_14 rfl ?_
    refine x_zret hE dX8_isCell_15 (by rfl) ?_
    exact ⟨rb0 (by simp; omega), rfl⟩
  · refine x_iload_n (pc' := 5) hE dX8_isCell_4 rfl rfl ?_
    refine x_bipush (pc' := 7) hE dX8_isCell_5 rfl (by decide +kernel) ?_
    refine x_icmpge (tgt := 14) (pc' := 10) hE dX8_isCell_7 (by decide) rfl ⟨by omega, by omega⟩ ⟨by omega, by omega⟩ (fun h2 => ?_) (fun h2 => ?_)
    · refine x_iconst (pc' := 15) hE dX8_isCell_14 rfl ?_
      refine x_zret hE dX8_isCell_15 (by rfl) ?_
      exact ⟨rb0 (by simp; omega), rfl⟩
    · refine x_iconst (pc' := 11) hE dX8_isCell_10 rfl ?_
      refine x_goto (tgt := 15) hE dX8_isCell_11 (by decide) ?_
      refine x_zret hE dX8_isCell_15 (by rfl) ?_
      exact ⟨rb1 (by simp; omega), rfl⟩
set_option maxHeartbeats 4000000 in
set_option maxRecDepth 10000 in
theorem c_X8_isName (l : Launch) (G : GC) (σ : St) (c : Int) (hc : inR c) : Ct l (YC G) yX8_isName (.code yX8_isName cX8_isName 1 (some .boolean)) 0 [.int (iN c)] σ (fun v σ' => v = some (.int (bI (decide (0 ≤ c ∧ c ≤ 9)))) ∧ σ' = σ) := by
  refine Ct_of (own := RX8) [some (.int (iN c))] rfl rfl (Nat.le_of_ble_eq_true rfl) rfl ?_
  intro E hE hM hl hR
  obtain ⟨c1, c2⟩ := hc
  refine x_iload_n (pc' := 1) hE dX8_isName_0 rfl rfl ?_
  refine x_iflt (tgt := 14) (pc' := 4) hE dX8_isName_1 (by decide) rfl ⟨by omega, by omega⟩ (fun h1 => ?_) (fun h1 => ?_)
  · refine x_iconst (pc' := 15) hE dX8_isName_14 rfl ?_
    refine x_zret hE dX8_isName_15 (by rfl) ?_
    exact ⟨rb0 (by simp; omega), rfl⟩
  · refine x_iload_n (pc' := 5) hE dX8_isName_4 rfl rfl ?_
    refine x_bipush (pc' := 7) hE dX8_isName_5 rfl (by decide +kernel) ?_
    refine x_icmpge (tgt := 14) (pc' := 10) hE dX8_isName_7 (by decide) rfl ⟨by omega, by omega⟩ ⟨by omega, by omega⟩ (fun h2 => ?_) (fun h2 => ?_)
    · refine x_iconst (pc' := 15) hE dX8_isName_14 rfl ?_
      refine x_zret hE dX8_isName_15 (by rfl) ?_
      exact ⟨rb0 (by simp; omega), rfl⟩
    · refine x_iconst (pc' := 11) hE dX8_isName_10 rfl ?_
      refine x_goto (tgt := 15) hE dX8_isName_11 (by decide) ?_
      refine x_zret hE dX8_isName_15 (by rfl) ?_
      exact ⟨rb1 (by simp; omega), rfl⟩
set_option maxHeartbeats 4000000 in
set_option maxRecDepth 10000 in
theorem c_X8_isKind (l : Launch) (G : GC) (σ : St) (c : Int) (hc : inR c) : Ct l (YC G) yX8_isKind (.code yX8_isKind cX8_isKind 1 (some .boolean)) 0 [.int (iN c)] σ (fun v σ' => v = some (.int (bI (decide (0 ≤ c ∧ c ≤ 4)))) ∧ σ' = σ) := by
  refine Ct_of (own := RX8) [some (.int (iN c))] rfl rfl (Nat.le_of_ble_eq_true rfl) rfl ?_
  intro E hE hM hl hR
  obtain ⟨c1, c2⟩ := hc
  refine x_iload_n (pc' := 1) hE dX8_isKind_0 rfl rfl ?_
  refine x_iflt (tgt := 16) (pc' := 4) hE dX8_isKind_1 (by decide) rfl ⟨by omega, by omega⟩ (fun h1 => ?_) (fun h1 => ?_)
  · refine x_iconst (pc' := 17) hE dX8_isKind_16 rfl ?_
    refine x_zret hE dX8_isKind_17 (by rfl) ?_
    exact ⟨rb0 (by simp; omega), rfl⟩
  · refine x_iload_n (pc' := 5) hE dX8_isKind_4 rfl rfl ?_
    refine x_kinds (pc' := 8) hE hM tF_X8_97 dX8_isKind_5 rfl ?_
    refine x_klen (pc' := 9) hE hM dX8_isKind_8 rfl ?_
    refine x_icmpge (tgt := 16) (pc' := 12) hE dX8_isKind_9 (by decide) rfl ⟨by omega, by omega⟩ ⟨by omega, by omega⟩ (fun h2 => ?_) (fun h2 => ?_)
    · refine x_iconst (pc' := 17) hE dX8_isKind_16 rfl ?_
      refine x_zret hE dX8_isKind_17 (by rfl) ?_
      exact ⟨rb0 (by simp; omega), rfl⟩
    · refine x_iconst (pc' := 13) hE dX8_isKind_12 rfl ?_
      refine x_goto (tgt := 17) hE dX8_isKind_13 (by decide) ?_
      refine x_zret hE dX8_isKind_17 (by rfl) ?_
      exact ⟨rb1 (by simp; omega), rfl⟩
set_option maxHeartbeats 4000000 in
set_option maxRecDepth 10000 in
theorem c_X8_rowsThrough (l : Launch) (G : GC) (σ : St) (F : Int → Bool) (n : Nat) (IH : RBc l G F n) (V : Wd) (D f c : Int) (hX : RX σ f V) (hd : σ 6 2 0 6 = V 0 2) (he : σ 6 2 0 7 = mk5 (eaQ V)) (hV : WOk D V) (hD : D + n + 1 ≤ 900000) (hRF : RF σ F) (f0 : 0 ≤ f) (f1 : f < V 0 1) (c0 : -2 ≤ c) (c1 : c ≤ 9) : Ct l (YC G) yX8_rowsThrough (.code yX8_rowsThrough cX8_rowsThrough 4 (some .int)) (2 * n + 4) [.ref (aC G 0 0 0), .int (iN f), .int (iN c), .int (iN ((n + 1 : Nat) : Int))] σ (fun v σ' => v = some (.int (iN (gThr F f n V c))) ∧ (FrD 2 σ σ' ∧ RX σ' f V)) := by
  refine Ct_of (own := RX8) [some (.ref (aC G 0 0 0)), some (.int (iN f)), some (.int (iN c)), some (.int (iN ((n + 1 : Nat) : Int)))] rfl rfl (Nat.le_of_ble_eq_true rfl) rfl ?_
  intro E hE hM hl hR
  have hW1 := hX.to (c := c) hd he
  have hf1 := FrD_cell 2 σ f c
  have hRF1 := hf1.fa.rf hRF
  have v2 := hV.2.1
  have hg := (gThr_bd F f n).1 (goD F (wu V 5 f c))
  have a1 : goD F (wu V 5 f c) 0 1 = V 0 1 := by rw [goD_r F _ (by decide) (by decide), wu_r (by decide)]
  refine x_iload_n (pc' := 1) hE dX8_rowsThrough_0 rfl rfl ?_
  refine x_cS1 (pc' := 4) hE hM (okC G) hl hR (c_X8_isCell l G _ _ ⟨by omega, by omega⟩) kX8_isCell tM_X8_80 (by omega) dX8_rowsThrough_1 rfl rfl (Nat.le_of_ble_eq_true rfl) (fun σ1 e1 => ?_)
  replace e1 := e1.symm
  subst e1
  refine x_ifneB (tgt := 9) (pc' := 7) hE dX8_rowsThrough_4 (by decide) rfl (fun h2 => ?_) (fun h2 => ?_)
  · try simp only [decide_eq_true_eq, decide_eq_false_iff_not] at h2
    have hV1 : WOk D (wu V 5 f c) := wu5_ok hV (by omega) (by omega)
    have hV2 : WOk (D + 1) (goD F (wu V 5 f c)) := goD_ok hV1
    refine x_aload_n (pc' := 10) hE dX8_rowsThrough_9 rfl rfl ?_
    refine g_X8_4 (pc' := 13) hE hM tF_X8_33 dX8_rowsThrough_10 rfl ?_
    refine gN_X7_1 (pc' := 16) (by omega) hE hM (fun _ h => nF_X8_148 h) dX8_rowsThrough_13 rfl ?_
    refine x_iload_n (pc' := 17) hE dX8_rowsThrough_16 rfl rfl ?_
    refine aC_8 (pc' := 18) (by omega) hE hM (by omega) (by omega) dX8_rowsThrough_17 rfl ?_
    refine x_iload_n (pc' := 19) hE dX8_rowsThrough_18 rfl rfl ?_
    refine pN_X2_1 (pc' := 22) (by omega) (by omega) (by omega) hE hM (fun _ h => nF_X8_163 h) dX8_rowsThrough_19 rfl ?_
    generalize hS : up σ 12 2 f 1 c = S at *
    refine x_aload_n (pc' := 23) hE dX8_rowsThrough_22 rfl rfl ?_
    refine g_X8_4 (pc' := 26) hE hM tF_X8_33 dX8_rowsThrough_23 rfl ?_
    refine x_aload_n (pc' := 27) hE dX8_rowsThrough_26 rfl rfl ?_
    refine g_X8_1 (pc' := 30) hE hM tF_X8_19 dX8_rowsThrough_27 rfl ?_
    refine x_cV1 (pc' := 33) hE hM (okC G) hl hR (c_X7_passDay l G _ _ (by omega) _ _ hW1 hV1 (by omega) _ hRF1) kX7_passDay tM_X8_173 (rcv_X7 (by omega) hM) (by omega) dX8_rowsThrough_30 rfl rfl (Nat.le_of_ble_eq_true rfl) (fun σ3 e3 => ?_)
    obtain ⟨hS2, hf2⟩ := e3
    have hf3 := hf1.trans hf2
    have hRF2 := hf3.fa.rf hRF
    refine x_pop (pc' := 34) hE dX8_rowsThrough_33 rfl rfl ?_
    refine x_aload_n (pc' := 35) hE dX8_rowsThrough_34 rfl rfl ?_
    refine g_X8_4 (pc' := 38) hE hM tF_X8_33 dX8_rowsThrough_35 rfl ?_
    refine x_iload_n (pc' := 39) hE dX8_rowsThrough_38 rfl rfl ?_
    refine x_cV1 (pc' := 42) hE hM (okC G) hl hR (c_X7_isEaten l G _ _ (by omega) _ _ hS2 hV2 (by omega) _ (by omega) (by omega)) kX7_isEaten tM_X8_164 (rcv_X7 (by omega) hM) (by omega) dX8_rowsThrough_39 rfl rfl (Nat.le_of_ble_eq_true rfl) (fun σ4 e4 => ?_)
    replace e4 := e4.symm
    subst e4
    refine x_ifeqB (tgt := 49) (pc' := 45) hE dX8_rowsThrough_42 (by decide) rfl (fun h5 => ?_) (fun h5 => ?_)
    · try simp only [decide_eq_true_eq, decide_eq_false_iff_not] at h5
      refine x_aload_n (pc' := 50) hE dX8_rowsThrough_49 rfl rfl ?_
      refine x_iload_n (pc' := 51) hE dX8_rowsThrough_50 rfl rfl ?_
      refine x_iload_n (pc' := 52) hE dX8_rowsThrough_51 rfl rfl ?_
      refine x_iconst (pc' := 53) hE dX8_rowsThrough_52 rfl ?_
      refine x_isub (pc' := 54) hE dX8_rowsThrough_53 rfl ?_
      rw [show ((n + 1 : Nat) : Int) - 1 = ((n : Nat) : Int) by omega]
      refine x_cV1 (pc' := 57) hE hM (okC G) hl hR (IH _ _ _ _ hS2 hV2 (by omega) hRF2 f0 (by omega)) kX8_rowsBehind tM_X8_194 (rcv_X8 hM) (by omega) dX8_rowsThrough_54 rfl rfl (Nat.le_of_ble_eq_true rfl) (fun σ6 e6 => ?_)
      obtain ⟨hf4, hx4⟩ := e6
      refine x_iret hE dX8_rowsThrough_57 ?_
      have q := eaQ_f h5 (by omega)
      refine ⟨ri ?_, hf3.trans hf4, hx4.back⟩
      unfold gThr
      rw [if_pos h2, if_neg (by omega)]
    · try simp only [decide_eq_true_eq, decide_eq_false_iff_not] at h5
      refine x_iconst (pc' := 46) hE dX8_rowsThrough_45 rfl ?_
      refine x_goto (tgt := 57) hE dX8_rowsThrough_46 (by decide) ?_
      refine x_iret hE dX8_rowsThrough_57 ?_
      have q := eaQ_t h5
      refine ⟨ri ?_, hf3, (hS2.rx f).back⟩
      unfold gThr
      rw [if_pos h2, if_pos q.2]
  · try simp only [decide_eq_true_eq, decide_eq_false_iff_not] at h2
    refine x_iconst (pc' := 8) hE dX8_rowsThrough_7 rfl ?_
    refine x_iret hE dX8_rowsThrough_8 ?_
    refine ⟨ri ?_, FrD.refl 2 σ, hX⟩
    unfold gThr
    rw [if_neg (by omega)]
set_option maxHeartbeats 4000000 in
set_option maxRecDepth 10000 in
theorem c_X8_rowsBehind (l : Launch) (G : GC) (σ : St) (F : Int → Bool) (n : Nat) (IT : ∀ k, n = k + 1 → RTc l G F k) (V : Wd) (D f : Int) (hR0 : RW σ 2 V) (hV : WOk D V) (hD : D + n ≤ 900000) (hn : n ≤ 6) (hRF : RF σ F) (f0 : 0 ≤ f) (f1 : f < V 0 1) : Ct l (YC G) yX8_rowsBehind (.code yX8_rowsBehind cX8_rowsBehind 8 (some .int)) (2 * n + 3) [.ref (aC G 0 0 0), .int (iN f), .int (iN ((n : Nat) : Int))] σ (fun v σ' => v = some (.int (iN (gRows F f n V))) ∧ (FrD 2 σ σ' ∧ RX σ' f V)) := by
  refine Ct_of (own := RX8) [some (.ref (aC G 0 0 0)), some (.int (iN f)), some (.int (iN ((n : Nat) : Int))), none, none, none, none, none] rfl rfl (Nat.le_of_ble_eq_true rfl) rfl ?_
  intro E hE hM hl hR
  obtain ⟨r1, r2, r3, r4, r5, r6, r7⟩ := id hR0
  obtain ⟨o1, o2, o3, o4, o5, o6⟩ := id hV
  have q1 := r6 f f0 f1
  have q2 := o5 f f0 (by omega)
  refine x_iload_n (pc' := 1) hE dX8_rowsBehind_0 rfl rfl ?_
  refine x_ifgt (tgt := 6) (pc' := 4) hE dX8_rowsBehind_1 (by decide) rfl ⟨by omega, by omega⟩ (fun h1 => ?_) (fun h1 => ?_)
  · obtain ⟨k, rfl⟩ : ∃ k, n = k + 1 := ⟨n - 1, by omega⟩
    have IT1 := IT k rfl
    have p3 := pow3_bd k (by omega)
    have g1 := (gThr_bd F f k).2 V (V 5 f - 1)
    have g2 := (gThr_bd F f k).2 V (V 5 f)
    have g3 := (gThr_bd F f k).2 V (V 5 f + 1)
    refine x_aload_n (pc' := 7) hE dX8_rowsBehind_6 rfl rfl ?_
    refine g_X8_4 (pc' := 10) hE hM tF_X8_33 dX8_rowsBehind_7 rfl ?_
    refine gN_X7_6 (pc' := 13) (by omega) hE hM (fun _ h => nF_X8_210 h) dX8_rowsBehind_10 rfl ?_
    rw [r3]
    refine x_istore_n (pc' := 14) hE dX8_rowsBehind_13 rfl (by decide) rfl rfl ?_
    dsimp only [List.set]
    refine x_aload_n (pc' := 15) hE dX8_rowsBehind_14 rfl rfl ?_
    refine g_X8_4 (pc' := 18) hE hM tF_X8_33 dX8_rowsBehind_15 rfl ?_
    refine gN_X7_7 (pc' := 21) (by omega) hE hM (fun _ h => nF_X8_278 h) dX8_rowsBehind_18 rfl ?_
    rw [r4]
    refine x_istore (pc' := 23) hE dX8_rowsBehind_21 rfl (by decide) rfl rfl ?_
    dsimp only [List.set]
    refine x_aload_n (pc' := 24) hE dX8_rowsBehind_23 rfl rfl ?_
    refine g_X8_4 (pc' := 27) hE hM tF_X8_33 dX8_rowsBehind_24 rfl ?_
    refine gN_X7_1 (pc' := 30) (by omega) hE hM (fun _ h => nF_X8_148 h) dX8_rowsBehind_27 rfl ?_
    refine x_iload_n (pc' := 31) hE dX8_rowsBehind_30 rfl rfl ?_
    refine aC_8 (pc' := 32) (by omega) hE hM (by omega) (by omega) dX8_rowsBehind_31 rfl ?_
    refine gN_X2_1 (pc' := 35) (by omega) (by omega) (by omega) hE hM (fun _ h => nF_X8_163 h) dX8_rowsBehind_32 rfl ?_
    rw [q1.2.1]
    refine x_istore (pc' := 37) hE dX8_rowsBehind_35 rfl (by decide) rfl rfl ?_
    dsimp only [List.set]
    refine x_iconst (pc' := 38) hE dX8_rowsBehind_37 rfl ?_
    refine x_istore (pc' := 40) hE dX8_rowsBehind_38 rfl (by decide) rfl rfl ?_
    dsimp only [List.set]
    refine x_iload (pc' := 42) hE dX8_rowsBehind_40 rfl rfl ?_
    refine x_iconst (pc' := 43) hE dX8_rowsBehind_42 rfl ?_
    refine x_isub (pc' := 44) hE dX8_rowsBehind_43 rfl ?_
    refine x_istore (pc' := 46) hE dX8_rowsBehind_44 rfl (by decide) rfl rfl ?_
    dsimp only [List.set]
    have hfS := FrD.refl 2 σ
    have hxS := hR0.rx f
    refine x_iload (pc' := 48) hE dX8_rowsBehind_46 rfl rfl ?_
    refine x_iload (pc' := 50) hE dX8_rowsBehind_48 rfl rfl ?_
    refine x_iconst (pc' := 51) hE dX8_rowsBehind_50 rfl ?_
    refine x_iadd (pc' := 52) hE dX8_rowsBehind_51 rfl ?_
    refine x_icmpgt (tgt := 84) (pc' := 55) hE dX8_rowsBehind_52 (by decide) rfl ⟨by omega, by omega⟩ ⟨by omega, by omega⟩ (fun h2 => ?_) (fun h2 => ?_)
    · exfalso; omega
    · refine x_aload_n (pc' := 56) hE dX8_rowsBehind_55 rfl rfl ?_
      refine g_X8_4 (pc' := 59) hE hM tF_X8_33 dX8_rowsBehind_56 rfl ?_
      refine x_iload_n (pc' := 60) hE dX8_rowsBehind_59 rfl rfl ?_
      refine x_iload (pc' := 62) hE dX8_rowsBehind_60 rfl rfl ?_
      refine x_cV0 (pc' := 65) hE hM (okC G) hl hR (c_X7_goBackTo l G _ _ (by omega) _ _) kX7_goBackTo tM_X8_281 (rcv_X7 (by omega) hM) (by omega) dX8_rowsBehind_62 rfl rfl (Nat.le_of_ble_eq_true rfl) (fun σ3 e3 => ?_)
      replace e3 := e3.symm
      subst e3
      refine x_iload (pc' := 67) hE dX8_rowsBehind_65 rfl rfl ?_
      refine x_aload_n (pc' := 68) hE dX8_rowsBehind_67 rfl rfl ?_
      refine x_iload_n (pc' := 69) hE dX8_rowsBehind_68 rfl rfl ?_
      refine x_iload (pc' := 71) hE dX8_rowsBehind_69 rfl rfl ?_
      refine x_iload_n (pc' := 72) hE dX8_rowsBehind_71 rfl rfl ?_
      refine x_cV1 (pc' := 75) hE hM (okC G) hl hR (IT1 _ V D f (V 5 f - 1) (hxS.up) (by rw [up_n (by omega), up_s]) (by rw [up_s]) hV (by omega) ((hfS.trans (FrD_back 2 _ _ _)).fa.rf hRF) f0 f1 (by omega) (by omega)) kX8_rowsThrough tM_X8_284 (rcv_X8 hM) (by omega) dX8_rowsBehind_72 rfl rfl (Nat.le_of_ble_eq_true rfl) (fun σ4 e4 => ?_)
      obtain ⟨hfa1, hxS1⟩ := e4
      have hfS1 := (hfS.trans (FrD_back 2 _ _ _)).trans hfa1
      generalize σ4 = S1 at *
      refine x_iadd (pc' := 76) hE dX8_rowsBehind_75 rfl ?_
      refine x_istore (pc' := 78) hE dX8_rowsBehind_76 rfl (by decide) rfl rfl ?_
      dsimp only [List.set]
      refine x_iinc (pc' := 81) hE dX8_rowsBehind_78 rfl rfl (by decide) rfl rfl ?_
      dsimp only [List.set]
      refine x_goto (tgt := 46) hE dX8_rowsBehind_81 (by decide) ?_
      refine x_iload (pc' := 48) hE dX8_rowsBehind_46 rfl rfl ?_
      refine x_iload (pc' := 50) hE dX8_rowsBehind_48 rfl rfl ?_
      refine x_iconst (pc' := 51) hE dX8_rowsBehind_50 rfl ?_
      refine x_iadd (pc' := 52) hE dX8_rowsBehind_51 rfl ?_
      refine x_icmpgt (tgt := 84) (pc' := 55) hE dX8_rowsBehind_52 (by decide) rfl ⟨by omega, by omega⟩ ⟨by omega, by omega⟩ (fun h5 => ?_) (fun h5 => ?_)
      · exfalso; omega
      · refine x_aload_n (pc' := 56) hE dX8_rowsBehind_55 rfl rfl ?_
        refine g_X8_4 (pc' := 59) hE hM tF_X8_33 dX8_rowsBehind_56 rfl ?_
        refine x_iload_n (pc' := 60) hE dX8_rowsBehind_59 rfl rfl ?_
        refine x_iload (pc' := 62) hE dX8_rowsBehind_60 rfl rfl ?_
        refine x_cV0 (pc' := 65) hE hM (okC G) hl hR (c_X7_goBackTo l G _ _ (by omega) _ _) kX7_goBackTo tM_X8_281 (rcv_X7 (by omega) hM) (by omega) dX8_rowsBehind_62 rfl rfl (Nat.le_of_ble_eq_true rfl) (fun σ6 e6 => ?_)
        replace e6 := e6.symm
        subst e6
        refine x_iload (pc' := 67) hE dX8_rowsBehind_65 rfl rfl ?_
        refine x_aload_n (pc' := 68) hE dX8_rowsBehind_67 rfl rfl ?_
        refine x_iload_n (pc' := 69) hE dX8_rowsBehind_68 rfl rfl ?_
        refine x_iload (pc' := 71) hE dX8_rowsBehind_69 rfl rfl ?_
        refine x_iload_n (pc' := 72) hE dX8_rowsBehind_71 rfl rfl ?_
        refine x_cV1 (pc' := 75) hE hM (okC G) hl hR (IT1 _ V D f (V 5 f - 1 + 1) (hxS1.up) (by rw [up_n (by omega), up_s]) (by rw [up_s]) hV (by omega) ((hfS1.trans (FrD_back 2 _ _ _)).fa.rf hRF) f0 f1 (by omega) (by omega)) kX8_rowsThrough tM_X8_284 (rcv_X8 hM) (by omega) dX8_rowsBehind_72 rfl rfl (Nat.le_of_ble_eq_true rfl) (fun σ7 e7 => ?_)
        obtain ⟨hfa2, hxS2⟩ := e7
        have hfS2 := (hfS1.trans (FrD_back 2 _ _ _)).trans hfa2
        generalize σ7 = S2 at *
        refine x_iadd (pc' := 76) hE dX8_rowsBehind_75 rfl ?_
        refine x_istore (pc' := 78) hE dX8_rowsBehind_76 rfl (by decide) rfl rfl ?_
        dsimp only [List.set]
        refine x_iinc (pc' := 81) hE dX8_rowsBehind_78 rfl rfl (by decide) rfl rfl ?_
        dsimp only [List.set]
        refine x_goto (tgt := 46) hE dX8_rowsBehind_81 (by decide) ?_
        refine x_iload (pc' := 48) hE dX8_rowsBehind_46 rfl rfl ?_
        refine x_iload (pc' := 50) hE dX8_rowsBehind_48 rfl rfl ?_
        refine x_iconst (pc' := 51) hE dX8_rowsBehind_50 rfl ?_
        refine x_iadd (pc' := 52) hE dX8_rowsBehind_51 rfl ?_
        refine x_icmpgt (tgt := 84) (pc' := 55) hE dX8_rowsBehind_52 (by decide) rfl ⟨by omega, by omega⟩ ⟨by omega, by omega⟩ (fun h8 => ?_) (fun h8 => ?_)
        · exfalso; omega
        · refine x_aload_n (pc' := 56) hE dX8_rowsBehind_55 rfl rfl ?_
          refine g_X8_4 (pc' := 59) hE hM tF_X8_33 dX8_rowsBehind_56 rfl ?_
          refine x_iload_n (pc' := 60) hE dX8_rowsBehind_59 rfl rfl ?_
          refine x_iload (pc' := 62) hE dX8_rowsBehind_60 rfl rfl ?_
          refine x_cV0 (pc' := 65) hE hM (okC G) hl hR (c_X7_goBackTo l G _ _ (by omega) _ _) kX7_goBackTo tM_X8_281 (rcv_X7 (by omega) hM) (by omega) dX8_rowsBehind_62 rfl rfl (Nat.le_of_ble_eq_true rfl) (fun σ9 e9 => ?_)
          replace e9 := e9.symm
          subst e9
          refine x_iload (pc' := 67) hE dX8_rowsBehind_65 rfl rfl ?_
          refine x_aload_n (pc' := 68) hE dX8_rowsBehind_67 rfl rfl ?_
          refine x_iload_n (pc' := 69) hE dX8_rowsBehind_68 rfl rfl ?_
          refine x_iload (pc' := 71) hE dX8_rowsBehind_69 rfl rfl ?_
          refine x_iload_n (pc' := 72) hE dX8_rowsBehind_71 rfl rfl ?_
          refine x_cV1 (pc' := 75) hE hM (okC G) hl hR (IT1 _ V D f (V 5 f - 1 + 1 + 1) (hxS2.up) (by rw [up_n (by omega), up_s]) (by rw [up_s]) hV (by omega) ((hfS2.trans (FrD_back 2 _ _ _)).fa.rf hRF) f0 f1 (by omega) (by omega)) kX8_rowsThrough tM_X8_284 (rcv_X8 hM) (by omega) dX8_rowsBehind_72 rfl rfl (Nat.le_of_ble_eq_true rfl) (fun σ10 e10 => ?_)
          obtain ⟨hfa3, hxS3⟩ := e10
          have hfS3 := (hfS2.trans (FrD_back 2 _ _ _)).trans hfa3
          generalize σ10 = S3 at *
          refine x_iadd (pc' := 76) hE dX8_rowsBehind_75 rfl ?_
          refine x_istore (pc' := 78) hE dX8_rowsBehind_76 rfl (by decide) rfl rfl ?_
          dsimp only [List.set]
          refine x_iinc (pc' := 81) hE dX8_rowsBehind_78 rfl rfl (by decide) rfl rfl ?_
          dsimp only [List.set]
          refine x_goto (tgt := 46) hE dX8_rowsBehind_81 (by decide) ?_
          refine x_iload (pc' := 48) hE dX8_rowsBehind_46 rfl rfl ?_
          refine x_iload (pc' := 50) hE dX8_rowsBehind_48 rfl rfl ?_
          refine x_iconst (pc' := 51) hE dX8_rowsBehind_50 rfl ?_
          refine x_iadd (pc' := 52) hE dX8_rowsBehind_51 rfl ?_
          refine x_icmpgt (tgt := 84) (pc' := 55) hE dX8_rowsBehind_52 (by decide) rfl ⟨by omega, by omega⟩ ⟨by omega, by omega⟩ (fun h11 => ?_) (fun h11 => ?_)
          · refine x_iload (pc' := 86) hE dX8_rowsBehind_84 rfl rfl ?_
            refine x_iret hE dX8_rowsBehind_86 ?_
            refine ⟨ri ?_, hfS3, hxS3⟩
            rw [gRows_s, show V 5 f - 1 + 1 + 1 = V 5 f + 1 by omega, show V 5 f - 1 + 1 = V 5 f by omega, Int.zero_add]
          · exfalso; omega
  · refine x_iconst (pc' := 5) hE dX8_rowsBehind_4 rfl ?_
    refine x_iret hE dX8_rowsBehind_5 ?_
    have e : n = 0 := by omega
    subst e
    exact ⟨rfl, FrD.refl 2 σ, hR0.rx f⟩
theorem grz_all (l : Launch) (G : GC) (F : Int → Bool) : ∀ n : Nat, n ≤ 6 → RBc l G F n
  | 0, _ => fun σ V D f hR hV hD hRF f0 f1 => c_X8_rowsBehind l G σ F 0 (fun k h => by omega) V D f hR hV hD (by omega) hRF f0 f1
  | n + 1, hn => fun σ V D f hR hV hD hRF f0 f1 => c_X8_rowsBehind l G σ F (n + 1) (fun k h => by
      obtain rfl : k = n := by omega
      exact fun σ V D f c hX hd he hV hD hRF f0 f1 c0 c1 => c_X8_rowsThrough l G σ F k (grz_all l G F k (by omega)) V D f c hX hd he hV hD hRF f0 f1 c0 c1) V D f hR hV hD hn hRF f0 f1
theorem grz_T (l : Launch) (G : GC) (F : Int → Bool) (n : Nat) (hn : n ≤ 5) : RTc l G F n := fun σ V D f c hX hd he hV hD hRF f0 f1 c0 c1 => c_X8_rowsThrough l G σ F n (grz_all l G F n (by omega)) V D f c hX hd he hV hD hRF f0 f1 c0 c1
def fstC (F : Int → Bool) (f : Int) (n : Nat) (V : Wd) : Int := if gThr F f n V (V 5 f - 1) > 0 then V 5 f - 1 else if gThr F f n V (V 5 f) > 0 then V 5 f else if gThr F f n V (V 5 f + 1) > 0 then V 5 f + 1 else -1
set_option maxHeartbeats 4000000 in
set_option maxRecDepth 10000 in
theorem c_X8_firstCellOfGrazing (l : Launch) (G : GC) (σ : St) (F : Int → Bool) (n : Nat) (hn : n ≤ 5) (V : Wd) (D f : Int) (hRW : RW σ 0 V) (hR0 : RW σ 2 V) (hV : WOk D V) (hD : D + n + 1 ≤ 900000) (hRF : RF σ F) (f0 : 0 ≤ f) (f1 : f < V 0 1) : Ct l (YC G) yX8_firstCellOfGrazing (.code yX8_firstCellOfGrazing cX8_firstCellOfGrazing 5 (some .int)) (2 * n + 5) [.ref (aC G 0 0 0), .int (iN f), .int (iN ((n + 1 : Nat) : Int))] σ (fun v σ' => v = some (.int (iN (fstC F f n V))) ∧ FrD 2 σ σ') := by
  refine Ct_of (own := RX8) [some (.ref (aC G 0 0 0)), some (.int (iN f)), some (.int (iN ((n + 1 : Nat) : Int))), none, none] rfl rfl (Nat.le_of_ble_eq_true rfl) rfl ?_
  intro E hE hM hl hR
  obtain ⟨r1, r2, r3, r4, r5, r6, r7⟩ := id hRW
  obtain ⟨o1, o2, o3, o4, o5, o6⟩ := id hV
  have IT1 := grz_T l G F n hn
  have q1 := r6 f f0 f1
  have q2 := o5 f f0 (by omega)
  have p3 := pow3_bd n (by omega)
  have g1 := (gThr_bd F f n).2 V (V 5 f - 1)
  have g2 := (gThr_bd F f n).2 V (V 5 f - 1 + 1)
  have g3 := (gThr_bd F f n).2 V (V 5 f - 1 + 1 + 1)
  refine x_aload_n (pc' := 1) hE dX8_firstCellOfGrazing_0 rfl rfl ?_
  refine g_X8_2 (pc' := 4) hE hM tF_X8_26 dX8_firstCellOfGrazing_1 rfl ?_
  refine gN_X7_1 (pc' := 7) (by omega) hE hM (fun _ h => nF_X8_148 h) dX8_firstCellOfGrazing_4 rfl ?_
  refine x_iload_n (pc' := 8) hE dX8_firstCellOfGrazing_7 rfl rfl ?_
  refine aC_8 (pc' := 9) (by omega) hE hM (by omega) (by omega) dX8_firstCellOfGrazing_8 rfl ?_
  refine gN_X2_1 (pc' := 12) (by omega) (by omega) (by omega) hE hM (fun _ h => nF_X8_163 h) dX8_firstCellOfGrazing_9 rfl ?_
  rw [q1.2.1]
  refine x_istore_n (pc' := 13) hE dX8_firstCellOfGrazing_12 rfl (by decide) rfl rfl ?_
  dsimp only [List.set]
  refine x_iload_n (pc' := 14) hE dX8_firstCellOfGrazing_13 rfl rfl ?_
  refine x_iconst (pc' := 15) hE dX8_firstCellOfGrazing_14 rfl ?_
  refine x_isub (pc' := 16) hE dX8_firstCellOfGrazing_15 rfl ?_
  refine x_istore (pc' := 18) hE dX8_firstCellOfGrazing_16 rfl (by decide) rfl rfl ?_
  dsimp only [List.set]
  have hfS := FrD.refl 2 σ
  have hxS := hR0.rx f
  refine x_iload (pc' := 20) hE dX8_firstCellOfGrazing_18 rfl rfl ?_
  refine x_iload_n (pc' := 21) hE dX8_firstCellOfGrazing_20 rfl rfl ?_
  refine x_iconst (pc' := 22) hE dX8_firstCellOfGrazing_21 rfl ?_
  refine x_iadd (pc' := 23) hE dX8_firstCellOfGrazing_22 rfl ?_
  refine x_icmpgt (tgt := 67) (pc' := 26) hE dX8_firstCellOfGrazing_23 (by decide) rfl ⟨by omega, by omega⟩ ⟨by omega, by omega⟩ (fun h1 => ?_) (fun h1 => ?_)
  · exfalso; omega
  · refine x_aload_n (pc' := 27) hE dX8_firstCellOfGrazing_26 rfl rfl ?_
    refine g_X8_4 (pc' := 30) hE hM tF_X8_33 dX8_firstCellOfGrazing_27 rfl ?_
    refine x_aload_n (pc' := 31) hE dX8_firstCellOfGrazing_30 rfl rfl ?_
    refine g_X8_2 (pc' := 34) hE hM tF_X8_26 dX8_firstCellOfGrazing_31 rfl ?_
    refine gN_X7_6 (pc' := 37) (by omega) hE hM (fun _ h => nF_X8_210 h) dX8_firstCellOfGrazing_34 rfl ?_
    rw [show σ 6 0 0 6 = V 0 2 by rw [hfS 6 0 0 6 (by omega)]; exact r3]
    refine x_aload_n (pc' := 38) hE dX8_firstCellOfGrazing_37 rfl rfl ?_
    refine g_X8_2 (pc' := 41) hE hM tF_X8_26 dX8_firstCellOfGrazing_38 rfl ?_
    refine gN_X7_7 (pc' := 44) (by omega) hE hM (fun _ h => nF_X8_278 h) dX8_firstCellOfGrazing_41 rfl ?_
    rw [show σ 6 0 0 7 = mk5 (eaQ V) by rw [hfS 6 0 0 7 (by omega)]; exact r4]
    refine x_cV0 (pc' := 47) hE hM (okC G) hl hR (c_X7_goBackTo l G _ _ (by omega) _ _) kX7_goBackTo tM_X8_281 (rcv_X7 (by omega) hM) (by omega) dX8_firstCellOfGrazing_44 rfl rfl (Nat.le_of_ble_eq_true rfl) (fun σ2 e2 => ?_)
    replace e2 := e2.symm
    subst e2
    refine x_aload_n (pc' := 48) hE dX8_firstCellOfGrazing_47 rfl rfl ?_
    refine x_iload_n (pc' := 49) hE dX8_firstCellOfGrazing_48 rfl rfl ?_
    refine x_iload (pc' := 51) hE dX8_firstCellOfGrazing_49 rfl rfl ?_
    refine x_iload_n (pc' := 52) hE dX8_firstCellOfGrazing_51 rfl rfl ?_
    refine x_cV1 (pc' := 55) hE hM (okC G) hl hR (IT1 _ V D f (V 5 f - 1) (hxS.up) (by rw [up_n (by omega), up_s]) (by rw [up_s]) hV (by omega) ((hfS.trans (FrD_back 2 _ _ _)).fa.rf hRF) f0 f1 (by omega) (by omega)) kX8_rowsThrough tM_X8_284 (rcv_X8 hM) (by omega) dX8_firstCellOfGrazing_52 rfl rfl (Nat.le_of_ble_eq_true rfl) (fun σ3 e3 => ?_)
    obtain ⟨hfa1, hxS1⟩ := e3
    have hfS1 := (hfS.trans (FrD_back 2 _ _ _)).trans hfa1
    generalize σ3 = S1 at *
    refine x_ifle (tgt := 61) (pc' := 58) hE dX8_firstCellOfGrazing_55 (by decide) rfl ⟨by omega, by omega⟩ (fun h4 => ?_) (fun h4 => ?_)
    · refine x_iinc (pc' := 64) hE dX8_firstCellOfGrazing_61 rfl rfl (by decide) rfl rfl ?_
      dsimp only [List.set]
      refine x_goto (tgt := 18) hE dX8_firstCellOfGrazing_64 (by decide) ?_
      refine x_iload (pc' := 20) hE dX8_firstCellOfGrazing_18 rfl rfl ?_
      refine x_iload_n (pc' := 21) hE dX8_firstCellOfGrazing_20 rfl rfl ?_
      refine x_iconst (pc' := 22) hE dX8_firstCellOfGrazing_21 rfl ?_
      refine x_iadd (pc' := 23) hE dX8_firstCellOfGrazing_22 rfl ?_
      refine x_icmpgt (tgt := 67) (pc' := 26) hE dX8_firstCellOfGrazing_23 (by decide) rfl ⟨by omega, by omega⟩ ⟨by omega, by omega⟩ (fun h5 => ?_) (fun h5 => ?_)
      · exfalso; omega
      · refine x_aload_n (pc' := 27) hE dX8_firstCellOfGrazing_26 rfl rfl ?_
        refine g_X8_4 (pc' := 30) hE hM tF_X8_33 dX8_firstCellOfGrazing_27 rfl ?_
        refine x_aload_n (pc' := 31) hE dX8_firstCellOfGrazing_30 rfl rfl ?_
        refine g_X8_2 (pc' := 34) hE hM tF_X8_26 dX8_firstCellOfGrazing_31 rfl ?_
        refine gN_X7_6 (pc' := 37) (by omega) hE hM (fun _ h => nF_X8_210 h) dX8_firstCellOfGrazing_34 rfl ?_
        rw [show S1 6 0 0 6 = V 0 2 by rw [hfS1 6 0 0 6 (by omega)]; exact r3]
        refine x_aload_n (pc' := 38) hE dX8_firstCellOfGrazing_37 rfl rfl ?_
        refine g_X8_2 (pc' := 41) hE hM tF_X8_26 dX8_firstCellOfGrazing_38 rfl ?_
        refine gN_X7_7 (pc' := 44) (by omega) hE hM (fun _ h => nF_X8_278 h) dX8_firstCellOfGrazing_41 rfl ?_
        rw [show S1 6 0 0 7 = mk5 (eaQ V) by rw [hfS1 6 0 0 7 (by omega)]; exact r4]
        refine x_cV0 (pc' := 47) hE hM (okC G) hl hR (c_X7_goBackTo l G _ _ (by omega) _ _) kX7_goBackTo tM_X8_281 (rcv_X7 (by omega) hM) (by omega) dX8_firstCellOfGrazing_44 rfl rfl (Nat.le_of_ble_eq_true rfl) (fun σ6 e6 => ?_)
        replace e6 := e6.symm
        subst e6
        refine x_aload_n (pc' := 48) hE dX8_firstCellOfGrazing_47 rfl rfl ?_
        refine x_iload_n (pc' := 49) hE dX8_firstCellOfGrazing_48 rfl rfl ?_
        refine x_iload (pc' := 51) hE dX8_firstCellOfGrazing_49 rfl rfl ?_
        refine x_iload_n (pc' := 52) hE dX8_firstCellOfGrazing_51 rfl rfl ?_
        refine x_cV1 (pc' := 55) hE hM (okC G) hl hR (IT1 _ V D f (V 5 f - 1 + 1) (hxS1.up) (by rw [up_n (by omega), up_s]) (by rw [up_s]) hV (by omega) ((hfS1.trans (FrD_back 2 _ _ _)).fa.rf hRF) f0 f1 (by omega) (by omega)) kX8_rowsThrough tM_X8_284 (rcv_X8 hM) (by omega) dX8_firstCellOfGrazing_52 rfl rfl (Nat.le_of_ble_eq_true rfl) (fun σ7 e7 => ?_)
        obtain ⟨hfa2, hxS2⟩ := e7
        have hfS2 := (hfS1.trans (FrD_back 2 _ _ _)).trans hfa2
        generalize σ7 = S2 at *
        refine x_ifle (tgt := 61) (pc' := 58) hE dX8_firstCellOfGrazing_55 (by decide) rfl ⟨by omega, by omega⟩ (fun h8 => ?_) (fun h8 => ?_)
        · refine x_iinc (pc' := 64) hE dX8_firstCellOfGrazing_61 rfl rfl (by decide) rfl rfl ?_
          dsimp only [List.set]
          refine x_goto (tgt := 18) hE dX8_firstCellOfGrazing_64 (by decide) ?_
          refine x_iload (pc' := 20) hE dX8_firstCellOfGrazing_18 rfl rfl ?_
          refine x_iload_n (pc' := 21) hE dX8_firstCellOfGrazing_20 rfl rfl ?_
          refine x_iconst (pc' := 22) hE dX8_firstCellOfGrazing_21 rfl ?_
          refine x_iadd (pc' := 23) hE dX8_firstCellOfGrazing_22 rfl ?_
          refine x_icmpgt (tgt := 67) (pc' := 26) hE dX8_firstCellOfGrazing_23 (by decide) rfl ⟨by omega, by omega⟩ ⟨by omega, by omega⟩ (fun h9 => ?_) (fun h9 => ?_)
          · exfalso; omega
          · refine x_aload_n (pc' := 27) hE dX8_firstCellOfGrazing_26 rfl rfl ?_
            refine g_X8_4 (pc' := 30) hE hM tF_X8_33 dX8_firstCellOfGrazing_27 rfl ?_
            refine x_aload_n (pc' := 31) hE dX8_firstCellOfGrazing_30 rfl rfl ?_
            refine g_X8_2 (pc' := 34) hE hM tF_X8_26 dX8_firstCellOfGrazing_31 rfl ?_
            refine gN_X7_6 (pc' := 37) (by omega) hE hM (fun _ h => nF_X8_210 h) dX8_firstCellOfGrazing_34 rfl ?_
            rw [show S2 6 0 0 6 = V 0 2 by rw [hfS2 6 0 0 6 (by omega)]; exact r3]
            refine x_aload_n (pc' := 38) hE dX8_firstCellOfGrazing_37 rfl rfl ?_
            refine g_X8_2 (pc' := 41) hE hM tF_X8_26 dX8_firstCellOfGrazing_38 rfl ?_
            refine gN_X7_7 (pc' := 44) (by omega) hE hM (fun _ h => nF_X8_278 h) dX8_firstCellOfGrazing_41 rfl ?_
            rw [show S2 6 0 0 7 = mk5 (eaQ V) by rw [hfS2 6 0 0 7 (by omega)]; exact r4]
            refine x_cV0 (pc' := 47) hE hM (okC G) hl hR (c_X7_goBackTo l G _ _ (by omega) _ _) kX7_goBackTo tM_X8_281 (rcv_X7 (by omega) hM) (by omega) dX8_firstCellOfGrazing_44 rfl rfl (Nat.le_of_ble_eq_true rfl) (fun σ10 e10 => ?_)
            replace e10 := e10.symm
            subst e10
            refine x_aload_n (pc' := 48) hE dX8_firstCellOfGrazing_47 rfl rfl ?_
            refine x_iload_n (pc' := 49) hE dX8_firstCellOfGrazing_48 rfl rfl ?_
            refine x_iload (pc' := 51) hE dX8_firstCellOfGrazing_49 rfl rfl ?_
            refine x_iload_n (pc' := 52) hE dX8_firstCellOfGrazing_51 rfl rfl ?_
            refine x_cV1 (pc' := 55) hE hM (okC G) hl hR (IT1 _ V D f (V 5 f - 1 + 1 + 1) (hxS2.up) (by rw [up_n (by omega), up_s]) (by rw [up_s]) hV (by omega) ((hfS2.trans (FrD_back 2 _ _ _)).fa.rf hRF) f0 f1 (by omega) (by omega)) kX8_rowsThrough tM_X8_284 (rcv_X8 hM) (by omega) dX8_firstCellOfGrazing_52 rfl rfl (Nat.le_of_ble_eq_true rfl) (fun σ11 e11 => ?_)
            obtain ⟨hfa3, hxS3⟩ := e11
            have hfS3 := (hfS2.trans (FrD_back 2 _ _ _)).trans hfa3
            generalize σ11 = S3 at *
            refine x_ifle (tgt := 61) (pc' := 58) hE dX8_firstCellOfGrazing_55 (by decide) rfl ⟨by omega, by omega⟩ (fun h12 => ?_) (fun h12 => ?_)
            · refine x_iinc (pc' := 64) hE dX8_firstCellOfGrazing_61 rfl rfl (by decide) rfl rfl ?_
              dsimp only [List.set]
              refine x_goto (tgt := 18) hE dX8_firstCellOfGrazing_64 (by decide) ?_
              refine x_iload (pc' := 20) hE dX8_firstCellOfGrazing_18 rfl rfl ?_
              refine x_iload_n (pc' := 21) hE dX8_firstCellOfGrazing_20 rfl rfl ?_
              refine x_iconst (pc' := 22) hE dX8_firstCellOfGrazing_21 rfl ?_
              refine x_iadd (pc' := 23) hE dX8_firstCellOfGrazing_22 rfl ?_
              refine x_icmpgt (tgt := 67) (pc' := 26) hE dX8_firstCellOfGrazing_23 (by decide) rfl ⟨by omega, by omega⟩ ⟨by omega, by omega⟩ (fun h13 => ?_) (fun h13 => ?_)
              · refine x_iconst (pc' := 68) hE dX8_firstCellOfGrazing_67 rfl ?_
                refine x_iret hE dX8_firstCellOfGrazing_68 ?_
                have z2 : gThr F f n V (V 5 f - 1 + 1) = gThr F f n V (V 5 f) := by rw [show V 5 f - 1 + 1 = V 5 f by omega]
                have z3 : gThr F f n V (V 5 f - 1 + 1 + 1) = gThr F f n V (V 5 f + 1) := by rw [show V 5 f - 1 + 1 + 1 = V 5 f + 1 by omega]
                refine ⟨ri ?_, hfS3⟩
                unfold fstC
                repeat' split
                all_goals first | rfl | omega | (exfalso; omega)
              · exfalso; omega
            · refine x_iload (pc' := 60) hE dX8_firstCellOfGrazing_58 rfl rfl ?_
              refine x_iret hE dX8_firstCellOfGrazing_60 ?_
              have z2 : gThr F f n V (V 5 f - 1 + 1) = gThr F f n V (V 5 f) := by rw [show V 5 f - 1 + 1 = V 5 f by omega]
              have z3 : gThr F f n V (V 5 f - 1 + 1 + 1) = gThr F f n V (V 5 f + 1) := by rw [show V 5 f - 1 + 1 + 1 = V 5 f + 1 by omega]
              refine ⟨ri ?_, hfS3⟩
              unfold fstC
              repeat' split
              all_goals first | rfl | omega | (exfalso; omega)
        · refine x_iload (pc' := 60) hE dX8_firstCellOfGrazing_58 rfl rfl ?_
          refine x_iret hE dX8_firstCellOfGrazing_60 ?_
          have z2 : gThr F f n V (V 5 f - 1 + 1) = gThr F f n V (V 5 f) := by rw [show V 5 f - 1 + 1 = V 5 f by omega]
          have z3 : gThr F f n V (V 5 f - 1 + 1 + 1) = gThr F f n V (V 5 f + 1) := by rw [show V 5 f - 1 + 1 + 1 = V 5 f + 1 by omega]
          refine ⟨ri ?_, hfS2⟩
          unfold fstC
          repeat' split
          all_goals first | rfl | omega | (exfalso; omega)
    · refine x_iload (pc' := 60) hE dX8_firstCellOfGrazing_58 rfl rfl ?_
      refine x_iret hE dX8_firstCellOfGrazing_60 ?_
      have z2 : gThr F f n V (V 5 f - 1 + 1) = gThr F f n V (V 5 f) := by rw [show V 5 f - 1 + 1 = V 5 f by omega]
      have z3 : gThr F f n V (V 5 f - 1 + 1 + 1) = gThr F f n V (V 5 f + 1) := by rw [show V 5 f - 1 + 1 + 1 = V 5 f + 1 by omega]
      refine ⟨ri ?_, hfS1⟩
      unfold fstC
      repeat' split
      all_goals first | rfl | omega | (exfalso; omega)
