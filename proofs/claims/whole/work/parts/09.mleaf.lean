/-- the reference's world, in its own cells -/
def WT (D : Int) (τ : St) : Prop := (0 ≤ τ 0 0 0 5 ∧ τ 0 0 0 5 ≤ 4) ∧ (0 ≤ τ 0 0 0 9 ∧ τ 0 0 0 9 ≤ 5) ∧ (0 ≤ τ 0 0 0 3 ∧ τ 0 0 0 3 ≤ D) ∧ (∀ p, 0 ≤ p → p < 4 → (0 ≤ τ 3 0 0 p ∧ τ 3 0 0 p ≤ 4) ∧ (0 ≤ τ 4 0 0 p ∧ τ 4 0 0 p ≤ 7) ∧ (0 ≤ τ 5 0 0 p ∧ τ 5 0 0 p ≤ 9)) ∧ (∀ f, 0 ≤ f → f < 5 → (0 ≤ τ 6 0 0 f ∧ τ 6 0 0 f ≤ 9) ∧ (-1 ≤ τ 7 0 0 f ∧ τ 7 0 0 f ≤ 8) ∧ (-1 ≤ τ 8 0 0 f ∧ τ 8 0 0 f ≤ 3)) ∧ (∀ c, 0 ≤ c → c < 8 → 0 ≤ τ 2 0 0 c ∧ τ 2 0 0 c ≤ 29)
theorem WT_of {D : Int} {τ : St} (h : WOk D (wv τ)) : WT D τ := h
theorem anyU_s (p : Int → Bool) {k : Int} (h : 0 ≤ k) : anyU p (k + 1).toNat = (anyU p k.toNat || p k) := by
  rw [show (k + 1).toNat = k.toNat + 1 by omega, anyU, Int.toNat_of_nonneg h]
theorem cntU_s (p : Int → Bool) {k : Int} (h : 0 ≤ k) : cntU p (k + 1).toNat = cntU p k.toNat + (if p k then 1 else 0) := by
  rw [show (k + 1).toNat = k.toNat + 1 by omega, cntU, Int.toNat_of_nonneg h]
theorem allU_s (p : Int → Bool) {k : Int} (h : 0 ≤ k) : allU p (k + 1).toNat = (allU p k.toNat && p k) := by
  rw [show (k + 1).toNat = k.toNat + 1 by omega, allU, Int.toNat_of_nonneg h]
set_option maxHeartbeats 4000000 in
set_option maxRecDepth 10000 in
theorem c_X9_within (l : Launch) (G : GM) (τ : St) (a b c : Int) (ha : inR a) (hb : inR b) (hc : inR c) : Ct l (YM G) yX9_within (.code yX9_within cX9_within 3 (some .boolean)) 0 [.int (iN a), .int (iN b), .int (iN c)] τ (fun v τ' => v = some (.int (bI (decide (b ≤ a ∧ a ≤ c)))) ∧ τ' = τ) := by
  refine Ct_of (own := RX9) [some (.int (iN a)), some (.int (iN b)), some (.int (iN c))] rfl rfl (Nat.le_of_ble_eq_true rfl) rfl ?_
  intro E hE hM hl hR
  obtain ⟨a0, a1⟩ := ha
  obtain ⟨b0, b1⟩ := hb
  obtain ⟨c0, c1⟩ := hc
  refine x_iload_n (pc' := 1) hE dX9_within_0 rfl rfl ?_
  refine x_iload_n (pc' := 2) hE dX9_within_1 rfl rfl ?_
  refine x_icmplt (tgt := 14) (pc' := 5) hE dX9_within_2 (by decide) rfl ⟨by omega, by omega⟩ ⟨by omega, by omega⟩ (fun h1 => ?_) (fun h1 => ?_)
  · refine x_iconst (pc' := 15) hE dX9_within_14 rfl ?_
    refine x_zret hE dX9_within_15 (by rfl) ?_
    exact ⟨rb0 (by simp; omega), rfl⟩
  · refine x_iload_n (pc' := 6) hE dX9_within_5 rfl rfl ?_
    refine x_iload_n (pc' := 7) hE dX9_within_6 rfl rfl ?_
    refine x_icmpgt (tgt := 14) (pc' := 10) hE dX9_within_7 (by decide) rfl ⟨by omega, by omega⟩ ⟨by omega, by omega⟩ (fun h2 => ?_) (fun h2 => ?_)
    · refine x_iconst (pc' := 15) hE dX9_within_14 rfl ?_
      refine x_zret hE dX9_within_15 (by rfl) ?_
      exact ⟨rb0 (by simp; omega), rfl⟩
    · refine x_iconst (pc' := 11) hE dX9_within_10 rfl ?_
      refine x_goto (tgt := 15) hE dX9_within_11 (by decide) ?_
      refine x_zret hE dX9_within_15 (by rfl) ?_
      exact ⟨rb1 (by simp; omega), rfl⟩
set_option maxHeartbeats 4000000 in
set_option maxRecDepth 10000 in
theorem c_X9_isCell (l : Launch) (G : GM) (τ : St) (c : Int) (hc : inR c) : Ct l (YM G) yX9_isCell (.code yX9_isCell cX9_isCell 1 (some .boolean)) 1 [.int (iN c)] τ (fun v τ' => v = some (.int (bI (decide (0 ≤ c ∧ c ≤ 7)))) ∧ τ' = τ) := by
  refine Ct_of (own := RX9) [some (.int (iN c))] rfl rfl (Nat.le_of_ble_eq_true rfl) rfl ?_
  intro E hE hM hl hR
  obtain ⟨c0, c1⟩ := hc
  refine x_iload_n (pc' := 1) hE dX9_isCell_0 rfl rfl ?_
  refine x_iconst (pc' := 2) hE dX9_isCell_1 rfl ?_
  refine x_bipush (pc' := 4) hE dX9_isCell_2 rfl (by decide +kernel) ?_
  refine x_cS1 (pc' := 7) hE hM (okM G) hl hR (c_X9_within l G _ _ _ _ ⟨by omega, by omega⟩ ⟨by omega, by omega⟩ ⟨by omega, by omega⟩) kX9_within tM_X9_75 (by decide) dX9_isCell_4 rfl rfl (Nat.le_of_ble_eq_true rfl) (fun σ1 e1 => ?_)
  replace e1 := e1.symm
  subst e1
  refine x_zret hE dX9_isCell_7 (nz_b _) ?_
  exact ⟨rfl, rfl⟩
set_option maxHeartbeats 4000000 in
set_option maxRecDepth 10000 in
theorem c_X9_isName (l : Launch) (G : GM) (τ : St) (c : Int) (hc : inR c) : Ct l (YM G) yX9_isName (.code yX9_isName cX9_isName 1 (some .boolean)) 1 [.int (iN c)] τ (fun v τ' => v = some (.int (bI (decide (0 ≤ c ∧ c ≤ 9)))) ∧ τ' = τ) := by
  refine Ct_of (own := RX9) [some (.int (iN c))] rfl rfl (Nat.le_of_ble_eq_true rfl) rfl ?_
  intro E hE hM hl hR
  obtain ⟨c0, c1⟩ := hc
  refine x_iload_n (pc' := 1) hE dX9_isName_0 rfl rfl ?_
  refine x_iconst (pc' := 2) hE dX9_isName_1 rfl ?_
  refine x_bipush (pc' := 4) hE dX9_isName_2 rfl (by decide +kernel) ?_
  refine x_cS1 (pc' := 7) hE hM (okM G) hl hR (c_X9_within l G _ _ _ _ ⟨by omega, by omega⟩ ⟨by omega, by omega⟩ ⟨by omega, by omega⟩) kX9_within tM_X9_75 (by decide) dX9_isName_4 rfl rfl (Nat.le_of_ble_eq_true rfl) (fun σ1 e1 => ?_)
  replace e1 := e1.symm
  subst e1
  refine x_zret hE dX9_isName_7 (nz_b _) ?_
  exact ⟨rfl, rfl⟩
set_option maxHeartbeats 4000000 in
set_option maxRecDepth 10000 in
theorem c_X9_isPack (l : Launch) (G : GM) (τ : St) (c : Int) (hc : inR c) (hn : 0 ≤ τ 0 0 0 5 ∧ τ 0 0 0 5 ≤ 5) : Ct l (YM G) yX9_isPack (.code yX9_isPack cX9_isPack 2 (some .boolean)) 1 [.ref (aM G 0), .int (iN c)] τ (fun v τ' => v = some (.int (bI (decide (0 ≤ c ∧ c ≤ τ 0 0 0 5 - 1)))) ∧ τ' = τ) := by
  refine Ct_of (own := RX9) [some (.ref (aM G 0)), some (.int (iN c))] rfl rfl (Nat.le_of_ble_eq_true rfl) rfl ?_
  intro E hE hM hl hR
  obtain ⟨c0, c1⟩ := hc
  refine x_iload_n (pc' := 1) hE dX9_isPack_0 rfl rfl ?_
  refine x_iconst (pc' := 2) hE dX9_isPack_1 rfl ?_
  refine x_aload_n (pc' := 3) hE dX9_isPack_2 rfl rfl ?_
  refine gM_5 (pc' := 6) hE hM tF_X9_122 dX9_isPack_3 rfl ?_
  refine x_iconst (pc' := 7) hE dX9_isPack_6 rfl ?_
  refine x_isub (pc' := 8) hE dX9_isPack_7 rfl ?_
  refine x_cS1 (pc' := 11) hE hM (okM G) hl hR (c_X9_within l G _ _ _ _ ⟨by omega, by omega⟩ ⟨by omega, by omega⟩ ⟨by omega, by omega⟩) kX9_within tM_X9_75 (by decide) dX9_isPack_8 rfl rfl (Nat.le_of_ble_eq_true rfl) (fun σ1 e1 => ?_)
  replace e1 := e1.symm
  subst e1
  refine x_zret hE dX9_isPack_11 (nz_b _) ?_
  exact ⟨rfl, rfl⟩
set_option maxHeartbeats 4000000 in
set_option maxRecDepth 10000 in
theorem c_X9_isThere (l : Launch) (G : GM) (τ : St) (c : Int) (hc : inR c) (hn : 0 ≤ τ 0 0 0 9 ∧ τ 0 0 0 9 ≤ 5) : Ct l (YM G) yX9_isThere (.code yX9_isThere cX9_isThere 2 (some .boolean)) 1 [.ref (aM G 0), .int (iN c)] τ (fun v τ' => v = some (.int (bI (decide (0 ≤ c ∧ c ≤ τ 0 0 0 9 - 1)))) ∧ τ' = τ) := by
  refine Ct_of (own := RX9) [some (.ref (aM G 0)), some (.int (iN c))] rfl rfl (Nat.le_of_ble_eq_true rfl) rfl ?_
  intro E hE hM hl hR
  obtain ⟨c0, c1⟩ := hc
  refine x_iload_n (pc' := 1) hE dX9_isThere_0 rfl rfl ?_
  refine x_iconst (pc' := 2) hE dX9_isThere_1 rfl ?_
  refine x_aload_n (pc' := 3) hE dX9_isThere_2 rfl rfl ?_
  refine gM_9 (pc' := 6) hE hM tF_X9_133 dX9_isThere_3 rfl ?_
  refine x_iconst (pc' := 7) hE dX9_isThere_6 rfl ?_
  refine x_isub (pc' := 8) hE dX9_isThere_7 rfl ?_
  refine x_cS1 (pc' := 11) hE hM (okM G) hl hR (c_X9_within l G _ _ _ _ ⟨by omega, by omega⟩ ⟨by omega, by omega⟩ ⟨by omega, by omega⟩) kX9_within tM_X9_75 (by decide) dX9_isThere_8 rfl rfl (Nat.le_of_ble_eq_true rfl) (fun σ1 e1 => ?_)
  replace e1 := e1.symm
  subst e1
  refine x_zret hE dX9_isThere_11 (nz_b _) ?_
  exact ⟨rfl, rfl⟩
set_option maxHeartbeats 4000000 in
set_option maxRecDepth 10000 in
theorem c_X9_isFlock (l : Launch) (G : GM) (τ : St) (D : Int) (hW : WOk D (wv τ)) (c : Int) (hc : inR c) : Ct l (YM G) yX9_isFlock (.code yX9_isFlock cX9_isFlock 2 (some .boolean)) 2 [.ref (aM G 0), .int (iN c)] τ (fun v τ' => v = some (.int (bI (decide ((0 ≤ c ∧ c ≤ τ 0 0 0 9 - 1) ∧ τ 8 0 0 c = -1)))) ∧ τ' = τ) := by
  refine Ct_of (own := RX9) [some (.ref (aM G 0)), some (.int (iN c))] rfl rfl (Nat.le_of_ble_eq_true rfl) rfl ?_
  intro E hE hM hl hR
  obtain ⟨c0, c1⟩ := hc
  obtain ⟨hp, hn, hd, hpp, hff, hcc⟩ := WT_of hW
  refine x_aload_n (pc' := 1) hE dX9_isFlock_0 rfl rfl ?_
  refine x_iload_n (pc' := 2) hE dX9_isFlock_1 rfl rfl ?_
  refine x_cV1 (pc' := 5) hE hM (okM G) hl hR (c_X9_isThere l G _ _ ⟨by omega, by omega⟩ (by omega)) kX9_isThere tM_X9_161 (rcvM hM) (by decide) dX9_isFlock_2 rfl rfl (Nat.le_of_ble_eq_true rfl) (fun σ1 e1 => ?_)
  replace e1 := e1.symm
  subst e1
  refine x_ifeqB (tgt := 22) (pc' := 8) hE dX9_isFlock_5 (by decide) rfl (fun h2 => ?_) (fun h2 => ?_)
  · try simp only [decide_eq_true_eq, decide_eq_false_iff_not] at h2
    refine x_iconst (pc' := 23) hE dX9_isFlock_22 rfl ?_
    refine x_zret hE dX9_isFlock_23 (by rfl) ?_
    exact ⟨rb0 (by simp; omega), rfl⟩
  · try simp only [decide_eq_true_eq, decide_eq_false_iff_not] at h2
    refine x_aload_n (pc' := 9) hE dX9_isFlock_8 rfl rfl ?_
    refine gM_12 (pc' := 12) hE hM tF_X9_31 dX9_isFlock_9 rfl ?_
    refine x_iload_n (pc' := 13) hE dX9_isFlock_12 rfl rfl ?_
    have q1 := hff c (by omega) (by omega)
    refine aM_8 (pc' := 14) hE hM (by omega) (by omega) dX9_isFlock_13 rfl ?_
    refine x_iconst (pc' := 15) hE dX9_isFlock_14 rfl ?_
    refine x_icmpne (tgt := 22) (pc' := 18) hE dX9_isFlock_15 (by decide) rfl ⟨by omega, by omega⟩ ⟨by omega, by omega⟩ (fun h3 => ?_) (fun h3 => ?_)
    · refine x_iconst (pc' := 23) hE dX9_isFlock_22 rfl ?_
      refine x_zret hE dX9_isFlock_23 (by rfl) ?_
      exact ⟨rb0 (by simp; omega), rfl⟩
    · refine x_iconst (pc' := 19) hE dX9_isFlock_18 rfl ?_
      refine x_goto (tgt := 23) hE dX9_isFlock_19 (by decide) ?_
      refine x_zret hE dX9_isFlock_23 (by rfl) ?_
      exact ⟨rb1 (by simp; omega), rfl⟩
set_option maxHeartbeats 4000000 in
set_option maxRecDepth 10000 in
theorem c_X9_nameOn (l : Launch) (G : GM) (τ : St) (d : Int) (h0 : 0 ≤ d) (h1 : d < 100000000) : Ct l (YM G) yX9_nameOn (.code yX9_nameOn cX9_nameOn 1 (some .int)) 0 [.int (iN d)] τ (fun v τ' => v = some (.int (iN (d % 30 % 10))) ∧ τ' = τ) := by
  refine Ct_of (own := RX9) [some (.int (iN d))] rfl rfl (Nat.le_of_ble_eq_true rfl) rfl ?_
  intro E hE hM hl hR
  refine x_iload_n (pc' := 1) hE dX9_nameOn_0 rfl rfl ?_
  refine x_bipush (pc' := 3) hE dX9_nameOn_1 rfl (by decide +kernel) ?_
  refine x_irem (pc' := 4) hE dX9_nameOn_3 rfl (by omega) (by omega) (by omega) (by omega) ?_
  refine x_bipush (pc' := 6) hE dX9_nameOn_4 rfl (by decide +kernel) ?_
  refine x_irem (pc' := 7) hE dX9_nameOn_6 rfl (by omega) (by omega) (by omega) (by omega) ?_
  refine x_iret hE dX9_nameOn_7 ?_
  exact ⟨rfl, rfl⟩
set_option maxHeartbeats 4000000 in
set_option maxRecDepth 10000 in
theorem c_X9_readsBy (l : Launch) (G : GM) (τ : St) (k f g d : Int) (hk : 0 ≤ k ∧ k ≤ 4) (hf : 0 ≤ f ∧ f ≤ 100) (hg : 0 ≤ g ∧ g ≤ 100) (hd : 0 ≤ d ∧ d ≤ 10000000) : Ct l (YM G) yX9_readsBy (.code yX9_readsBy cX9_readsBy 4 (some .int)) 0 [.int (iN k), .int (iN f), .int (iN g), .int (iN d)] τ (fun v τ' => v = some (.int (iN (rdB k f g d))) ∧ τ' = τ) := by
  refine Ct_of (own := RX9) [some (.int (iN k)), some (.int (iN f)), some (.int (iN g)), some (.int (iN d))] rfl rfl (Nat.le_of_ble_eq_true rfl) rfl ?_
  intro E hE hM hl hR
  refine x_iload_n (pc' := 1) hE dX9_readsBy_0 rfl rfl ?_
  refine x_iload_n (pc' := 2) hE dX9_readsBy_1 rfl rfl ?_
  refine x_iadd (pc' := 3) hE dX9_readsBy_2 rfl ?_
  refine x_sipush (pc' := 6) hE dX9_readsBy_3 rfl (by decide +kernel) ?_
  refine x_iadd (pc' := 7) hE dX9_readsBy_6 rfl ?_
  refine x_iload_n (pc' := 8) hE dX9_readsBy_7 rfl rfl ?_
  refine x_iconst (pc' := 9) hE dX9_readsBy_8 rfl ?_
  refine x_icmpeq (tgt := 17) (pc' := 12) hE dX9_readsBy_9 (by decide) rfl ⟨by omega, by omega⟩ ⟨by omega, by omega⟩ (fun h1 => ?_) (fun h1 => ?_)
  · refine x_iload_n (pc' := 18) hE dX9_readsBy_17 rfl rfl ?_
    refine x_goto (tgt := 22) hE dX9_readsBy_18 (by decide) ?_
    refine x_isub (pc' := 23) hE dX9_readsBy_22 rfl ?_
    refine x_iret hE dX9_readsBy_23 ?_
    refine ⟨ri ?_, rfl⟩
    unfold rdB
    split <;> omega
  · refine x_iload_n (pc' := 13) hE dX9_readsBy_12 rfl rfl ?_
    refine x_iconst (pc' := 14) hE dX9_readsBy_13 rfl ?_
    refine x_icmpne (tgt := 21) (pc' := 17) hE dX9_readsBy_14 (by decide) rfl ⟨by omega, by omega⟩ ⟨by omega, by omega⟩ (fun h2 => ?_) (fun h2 => ?_)
    · refine x_iconst (pc' := 22) hE dX9_readsBy_21 rfl ?_
      refine x_isub (pc' := 23) hE dX9_readsBy_22 rfl ?_
      refine x_iret hE dX9_readsBy_23 ?_
      refine ⟨ri ?_, rfl⟩
      unfold rdB
      split <;> omega
    · refine x_iload_n (pc' := 18) hE dX9_readsBy_17 rfl rfl ?_
      refine x_goto (tgt := 22) hE dX9_readsBy_18 (by decide) ?_
      refine x_isub (pc' := 23) hE dX9_readsBy_22 rfl ?_
      refine x_iret hE dX9_readsBy_23 ?_
      refine ⟨ri ?_, rfl⟩
      unfold rdB
      split <;> omega
theorem rdB_bd {k f g d : Int} (hf : 0 ≤ f ∧ f ≤ 100) (hg : 0 ≤ g ∧ g ≤ 100) (hd : 0 ≤ d) : 110 ≤ rdB k f g d ∧ rdB k f g d ≤ d + 310 := by
  unfold rdB
  split <;> omega
set_option maxHeartbeats 4000000 in
set_option maxRecDepth 10000 in
theorem c_X9_isFeast (l : Launch) (G : GM) (τ : St) (z : Int) (hF : FOk (τ 0 0 0 1) (τ 1 0 0)) (h0 : 0 ≤ z) (h1 : z < 100000000) : Ct l (YM G) yX9_isFeast (.code yX9_isFeast cX9_isFeast 6 (some .boolean)) 0 [.ref (aM G 0), .int (iN z)] τ (fun v τ' => v = some (.int (bI (fv τ z))) ∧ τ' = τ) := by
  refine Ct_of (own := RX9) [some (.ref (aM G 0)), some (.int (iN z)), none, none, none, none] rfl rfl (Nat.le_of_ble_eq_true rfl) rfl ?_
  intro E hE hM hl hR
  obtain ⟨f0, f1⟩ := hF
  have loop : ∀ (n : Nat) (k : Int), 0 ≤ k → k ≤ τ 0 0 0 1 → τ 0 0 0 1 - k = n → VV E 6 (AS (YM G)) (Qm (YM G) (fun v τ' => v = some (.int (bI (fv τ z))) ∧ τ' = τ) E) (Rh (YM G) (τ)) 32 [some (.ref (aM G 0)), some (.int (iN z)), some (.int (iN (z % 30))), some (.int (iN (100 + 10 * (z % 7) + z % 30 / 7 + 1))), some (.int (bI (anyU (fun k => decide (τ 1 0 0 k = z % 30) || decide (τ 1 0 0 k = 100 + 10 * (z % 7) + z % 30 / 7 + 1)) k.toNat))), some (.int (iN k))] [] := by
    intro n
    induction n using Nat.strongRecOn with
    | _ n ih =>
    intro k g0 g1 g2
    refine x_iload (pc' := 34) hE dX9_isFeast_32 rfl rfl ?_
    refine x_aload_n (pc' := 35) hE dX9_isFeast_34 rfl rfl ?_
    refine gM_1 (pc' := 38) hE hM tF_X9_102 dX9_isFeast_35 rfl ?_
    refine x_icmpge (tgt := 81) (pc' := 41) hE dX9_isFeast_38 (by decide) rfl ⟨by omega, by omega⟩ ⟨by omega, by omega⟩ (fun h1 => ?_) (fun h1 => ?_)
    · refine x_iload (pc' := 83) hE dX9_isFeast_81 rfl rfl ?_
      refine x_zret hE dX9_isFeast_83 (nz_b _) ?_
      have e : k = τ 0 0 0 1 := by omega
      subst e
      exact ⟨rfl, rfl⟩
    · refine x_iload (pc' := 43) hE dX9_isFeast_41 rfl rfl ?_
      refine x_ifneB (tgt := 68) (pc' := 46) hE dX9_isFeast_43 (by decide) rfl (fun h2 => ?_) (fun h2 => ?_)
      · try simp only [decide_eq_true_eq, decide_eq_false_iff_not] at h2
        refine x_iconst (pc' := 69) hE dX9_isFeast_68 rfl ?_
        refine x_goto (tgt := 73) hE dX9_isFeast_69 (by decide) ?_
        refine x_istore (pc' := 75) hE dX9_isFeast_73 rfl (by decide) rfl rfl ?_
        dsimp only [List.set]
        refine x_iinc (pc' := 78) hE dX9_isFeast_75 rfl rfl (by decide) rfl rfl ?_
        dsimp only [List.set]
        refine x_goto (tgt := 32) hE dX9_isFeast_78 (by decide) ?_
        have hb : anyU (fun k => decide (τ 1 0 0 k = z % 30) || decide (τ 1 0 0 k = 100 + 10 * (z % 7) + z % 30 / 7 + 1)) (k + 1).toNat = true := by
          rw [anyU_s _ g0]
          simp [h1, h2]
        refine x_lve (lv' := [some (.ref (aM G 0)), some (.int (iN z)), some (.int (iN (z % 30))), some (.int (iN (100 + 10 * (z % 7) + z % 30 / 7 + 1))), some (.int (bI (anyU (fun k => decide (τ 1 0 0 k = z % 30) || decide (τ 1 0 0 k = 100 + 10 * (z % 7) + z % 30 / 7 + 1)) (k + 1).toNat))), some (.int (iN (k + 1)))]) (by rw [hb, bI_t]) (ih (n - 1) (by omega) (k + 1) (by omega) (by omega) (by omega))
      · try simp only [decide_eq_true_eq, decide_eq_false_iff_not] at h2
        have q1 := f1 k (by omega) (by omega)
        refine x_aload_n (pc' := 47) hE dX9_isFeast_46 rfl rfl ?_
        refine gM_2 (pc' := 50) hE hM tF_X9_7 dX9_isFeast_47 rfl ?_
        refine x_iload (pc' := 52) hE dX9_isFeast_50 rfl rfl ?_
        refine aM_1 (pc' := 53) hE hM (by omega) (by omega) dX9_isFeast_52 rfl ?_
        refine x_iload_n (pc' := 54) hE dX9_isFeast_53 rfl rfl ?_
        refine x_icmpeq (tgt := 68) (pc' := 57) hE dX9_isFeast_54 (by decide) rfl ⟨by omega, by omega⟩ ⟨by omega, by omega⟩ (fun h3 => ?_) (fun h3 => ?_)
        · refine x_iconst (pc' := 69) hE dX9_isFeast_68 rfl ?_
          refine x_goto (tgt := 73) hE dX9_isFeast_69 (by decide) ?_
          refine x_istore (pc' := 75) hE dX9_isFeast_73 rfl (by decide) rfl rfl ?_
          dsimp only [List.set]
          refine x_iinc (pc' := 78) hE dX9_isFeast_75 rfl rfl (by decide) rfl rfl ?_
          dsimp only [List.set]
          refine x_goto (tgt := 32) hE dX9_isFeast_78 (by decide) ?_
          have hb : anyU (fun k => decide (τ 1 0 0 k = z % 30) || decide (τ 1 0 0 k = 100 + 10 * (z % 7) + z % 30 / 7 + 1)) (k + 1).toNat = true := by
            rw [anyU_s _ g0]
            simp [h1, h2, h3]
          refine x_lve (lv' := [some (.ref (aM G 0)), some (.int (iN z)), some (.int (iN (z % 30))), some (.int (iN (100 + 10 * (z % 7) + z % 30 / 7 + 1))), some (.int (bI (anyU (fun k => decide (τ 1 0 0 k = z % 30) || decide (τ 1 0 0 k = 100 + 10 * (z % 7) + z % 30 / 7 + 1)) (k + 1).toNat))), some (.int (iN (k + 1)))]) (by rw [hb, bI_t]) (ih (n - 1) (by omega) (k + 1) (by omega) (by omega) (by omega))
        · refine x_aload_n (pc' := 58) hE dX9_isFeast_57 rfl rfl ?_
          refine gM_2 (pc' := 61) hE hM tF_X9_7 dX9_isFeast_58 rfl ?_
          refine x_iload (pc' := 63) hE dX9_isFeast_61 rfl rfl ?_
          refine aM_1 (pc' := 64) hE hM (by omega) (by omega) dX9_isFeast_63 rfl ?_
          refine x_iload_n (pc' := 65) hE dX9_isFeast_64 rfl rfl ?_
          refine x_icmpne (tgt := 72) (pc' := 68) hE dX9_isFeast_65 (by decide) rfl ⟨by omega, by omega⟩ ⟨by omega, by omega⟩ (fun h4 => ?_) (fun h4 => ?_)
          · refine x_iconst (pc' := 73) hE dX9_isFeast_72 rfl ?_
            refine x_istore (pc' := 75) hE dX9_isFeast_73 rfl (by decide) rfl rfl ?_
            dsimp only [List.set]
            refine x_iinc (pc' := 78) hE dX9_isFeast_75 rfl rfl (by decide) rfl rfl ?_
            dsimp only [List.set]
            refine x_goto (tgt := 32) hE dX9_isFeast_78 (by decide) ?_
            have hb : anyU (fun k => decide (τ 1 0 0 k = z % 30) || decide (τ 1 0 0 k = 100 + 10 * (z % 7) + z % 30 / 7 + 1)) (k + 1).toNat = false := by
              rw [anyU_s _ g0]
              simp [h1, h2, h3, h4]
            refine x_lve (lv' := [some (.ref (aM G 0)), some (.int (iN z)), some (.int (iN (z % 30))), some (.int (iN (100 + 10 * (z % 7) + z % 30 / 7 + 1))), some (.int (bI (anyU (fun k => decide (τ 1 0 0 k = z % 30) || decide (τ 1 0 0 k = 100 + 10 * (z % 7) + z % 30 / 7 + 1)) (k + 1).toNat))), some (.int (iN (k + 1)))]) (by rw [hb, bI_f]) (ih (n - 1) (by omega) (k + 1) (by omega) (by omega) (by omega))
          · refine x_iconst (pc' := 69) hE dX9_isFeast_68 rfl ?_
            refine x_goto (tgt := 73) hE dX9_isFeast_69 (by decide) ?_
            refine x_istore (pc' := 75) hE dX9_isFeast_73 rfl (by decide) rfl rfl ?_
            dsimp only [List.set]
            refine x_iinc (pc' := 78) hE dX9_isFeast_75 rfl rfl (by decide) rfl rfl ?_
            dsimp only [List.set]
            refine x_goto (tgt := 32) hE dX9_isFeast_78 (by decide) ?_
            have hb : anyU (fun k => decide (τ 1 0 0 k = z % 30) || decide (τ 1 0 0 k = 100 + 10 * (z % 7) + z % 30 / 7 + 1)) (k + 1).toNat = true := by
              rw [anyU_s _ g0]
              simp [h1, h2, h3, h4]
            refine x_lve (lv' := [some (.ref (aM G 0)), some (.int (iN z)), some (.int (iN (z % 30))), some (.int (iN (100 + 10 * (z % 7) + z % 30 / 7 + 1))), some (.int (bI (anyU (fun k => decide (τ 1 0 0 k = z % 30) || decide (τ 1 0 0 k = 100 + 10 * (z % 7) + z % 30 / 7 + 1)) (k + 1).toNat))), some (.int (iN (k + 1)))]) (by rw [hb, bI_t]) (ih (n - 1) (by omega) (k + 1) (by omega) (by omega) (by omega))
  refine x_iload_n (pc' := 1) hE dX9_isFeast_0 rfl rfl ?_
  refine x_bipush (pc' := 3) hE dX9_isFeast_1 rfl (by decide +kernel) ?_
  refine x_irem (pc' := 4) hE dX9_isFeast_3 rfl (by omega) (by omega) (by omega) (by omega) ?_
  refine x_istore_n (pc' := 5) hE dX9_isFeast_4 rfl (by decide) rfl rfl ?_
  dsimp only [List.set]
  refine x_bipush (pc' := 7) hE dX9_isFeast_5 rfl (by decide +kernel) ?_
  refine x_bipush (pc' := 9) hE dX9_isFeast_7 rfl (by decide +kernel) ?_
  refine x_iload_n (pc' := 10) hE dX9_isFeast_9 rfl rfl ?_
  refine x_bipush (pc' := 12) hE dX9_isFeast_10 rfl (by decide +kernel) ?_
  refine x_irem (pc' := 13) hE dX9_isFeast_12 rfl (by omega) (by omega) (by omega) (by omega) ?_
  refine x_imul (pc' := 14) hE dX9_isFeast_13 rfl ?_
  refine x_iadd (pc' := 15) hE dX9_isFeast_14 rfl ?_
  refine x_iload_n (pc' := 16) hE dX9_isFeast_15 rfl rfl ?_
  refine x_bipush (pc' := 18) hE dX9_isFeast_16 rfl (by decide +kernel) ?_
  refine x_irem (pc' := 19) hE dX9_isFeast_18 rfl (by omega) (by omega) (by omega) (by omega) ?_
  refine x_bipush (pc' := 21) hE dX9_isFeast_19 rfl (by decide +kernel) ?_
  refine x_idiv (pc' := 22) hE dX9_isFeast_21 rfl (by omega) (by omega) (by omega) (by omega) ?_
  refine x_iadd (pc' := 23) hE dX9_isFeast_22 rfl ?_
  refine x_iconst (pc' := 24) hE dX9_isFeast_23 rfl ?_
  refine x_iadd (pc' := 25) hE dX9_isFeast_24 rfl ?_
  refine x_istore_n (pc' := 26) hE dX9_isFeast_25 rfl (by decide) rfl rfl ?_
  dsimp only [List.set]
  refine x_iconst (pc' := 27) hE dX9_isFeast_26 rfl ?_
  refine x_istore (pc' := 29) hE dX9_isFeast_27 rfl (by decide) rfl rfl ?_
  dsimp only [List.set]
  refine x_iconst (pc' := 30) hE dX9_isFeast_29 rfl ?_
  refine x_istore (pc' := 32) hE dX9_isFeast_30 rfl (by decide) rfl rfl ?_
  dsimp only [List.set]
  refine x_lve (lv' := [some (.ref (aM G 0)), some (.int (iN z)), some (.int (iN (z % 30))), some (.int (iN (100 + 10 * (z % 7) + z % 30 / 7 + 1))), some (.int (bI false)), some (.int (iN 0))]) (by rw [bI_f]) ?_
  exact loop (τ 0 0 0 1).toNat 0 (by omega) (by omega) (by omega)
set_option maxHeartbeats 4000000 in
set_option maxRecDepth 10000 in
theorem c_X9_dayTold (l : Launch) (G : GM) (τ : St) (z wh : Int) (hF : FOk (τ 0 0 0 1) (τ 1 0 0)) (h0 : 0 ≤ z) (h1 : z < 100000000) (w0 : 0 ≤ wh) (w1 : wh ≤ 3) : Ct l (YM G) yX9_dayTold (.code yX9_dayTold cX9_dayTold 3 (some .int)) 1 [.ref (aM G 0), .int (iN z), .int (iN wh)] τ (fun v τ' => v = some (.int (iN (if wh = 0 then z % 7 else if wh = 1 then z % 30 % 10 else if wh = 2 then (if fv τ z then 1 else 0) else z / 30))) ∧ τ' = τ) := by
  refine Ct_of (own := RX9) [some (.ref (aM G 0)), some (.int (iN z)), some (.int (iN wh))] rfl rfl (Nat.le_of_ble_eq_true rfl) rfl ?_
  intro E hE hM hl hR
  refine x_iload_n (pc' := 1) hE dX9_dayTold_0 rfl rfl ?_
  rcases (show wh = 0 ∨ wh = 1 ∨ wh = 2 ∨ (wh < 0 ∨ 2 < wh) by omega) with h1 | h1 | h1 | h1
  · refine x_tabIn (tgt := 28) (off := 27) hE dX9_dayTold_1 ⟨by omega, by omega⟩ (by omega) (by omega) (by rw [h1]; rfl) (by decide) ?_
    refine x_iload_n (pc' := 29) hE dX9_dayTold_28 rfl rfl ?_
    refine x_bipush (pc' := 31) hE dX9_dayTold_29 rfl (by decide +kernel) ?_
    refine x_irem (pc' := 32) hE dX9_dayTold_31 rfl (by omega) (by omega) (by omega) (by omega) ?_
    refine x_iret hE dX9_dayTold_32 ?_
    refine ⟨ri ?_, rfl⟩
    simp_all
    try omega
  · refine x_tabIn (tgt := 33) (off := 32) hE dX9_dayTold_1 ⟨by omega, by omega⟩ (by omega) (by omega) (by rw [h1]; rfl) (by decide) ?_
    refine x_iload_n (pc' := 34) hE dX9_dayTold_33 rfl rfl ?_
    refine x_cS1 (pc' := 37) hE hM (okM G) hl hR (c_X9_nameOn l G _ _ (by omega) (by omega)) kX9_nameOn tM_X9_108 (by decide) dX9_dayTold_34 rfl rfl (Nat.le_of_ble_eq_true rfl) (fun σ2 e2 => ?_)
    replace e2 := e2.symm
    subst e2
    refine x_iret hE dX9_dayTold_37 ?_
    refine ⟨ri ?_, rfl⟩
    simp_all
    try omega
  · refine x_tabIn (tgt := 38) (off := 37) hE dX9_dayTold_1 ⟨by omega, by omega⟩ (by omega) (by omega) (by rw [h1]; rfl) (by decide) ?_
    refine x_aload_n (pc' := 39) hE dX9_dayTold_38 rfl rfl ?_
    refine x_iload_n (pc' := 40) hE dX9_dayTold_39 rfl rfl ?_
    refine x_cV1 (pc' := 43) hE hM (okM G) hl hR (c_X9_isFeast l G _ _ (by assumption) (by omega) (by omega)) kX9_isFeast tM_X9_112 (rcvM hM) (by decide) dX9_dayTold_40 rfl rfl (Nat.le_of_ble_eq_true rfl) (fun σ3 e3 => ?_)
    replace e3 := e3.symm
    subst e3
    refine x_ifeqB (tgt := 50) (pc' := 46) hE dX9_dayTold_43 (by decide) rfl (fun h4 => ?_) (fun h4 => ?_)
    · try simp only [decide_eq_true_eq, decide_eq_false_iff_not] at h4
      refine x_iconst (pc' := 51) hE dX9_dayTold_50 rfl ?_
      refine x_iret hE dX9_dayTold_51 ?_
      refine ⟨ri ?_, rfl⟩
      simp_all
      try omega
    · try simp only [decide_eq_true_eq, decide_eq_false_iff_not] at h4
      refine x_iconst (pc' := 47) hE dX9_dayTold_46 rfl ?_
      refine x_goto (tgt := 51) hE dX9_dayTold_47 (by decide) ?_
      refine x_iret hE dX9_dayTold_51 ?_
      refine ⟨ri ?_, rfl⟩
      simp_all
      try omega
  · refine x_tabOut (tgt := 52) hE dX9_dayTold_1 ⟨by omega, by omega⟩ (by omega) (by decide) ?_
    refine x_iload_n (pc' := 53) hE dX9_dayTold_52 rfl rfl ?_
    refine x_bipush (pc' := 55) hE dX9_dayTold_53 rfl (by decide +kernel) ?_
    refine x_idiv (pc' := 56) hE dX9_dayTold_55 rfl (by omega) (by omega) (by omega) (by omega) ?_
    refine x_iret hE dX9_dayTold_56 ?_
    refine ⟨ri ?_, rfl⟩
    simp_all
    try omega
set_option maxHeartbeats 4000000 in
set_option maxRecDepth 10000 in
theorem c_X9_fastsBy (l : Launch) (G : GM) (τ : St) (k f g d : Int) (hF : FOk (τ 0 0 0 1) (τ 1 0 0)) (hk : 0 ≤ k ∧ k ≤ 4) (hf : 0 ≤ f ∧ f ≤ 100) (hg : 0 ≤ g ∧ g ≤ 100) (hd : 0 ≤ d ∧ d ≤ 10000000) : Ct l (YM G) yX9_fastsBy (.code yX9_fastsBy cX9_fastsBy 7 (some .boolean)) 1 [.ref (aM G 0), .int (iN k), .int (iN f), .int (iN g), .int (iN d)] τ (fun v τ' => v = some (.int (bI (fsB (fv τ) k f g d))) ∧ τ' = τ) := by
  refine Ct_of (own := RX9) [some (.ref (aM G 0)), some (.int (iN k)), some (.int (iN f)), some (.int (iN g)), some (.int (iN d)), none, none] rfl rfl (Nat.le_of_ble_eq_true rfl) rfl ?_
  intro E hE hM hl hR
  have q0 := rdB_bd (k := k) hf hg hd.1
  refine x_iload_n (pc' := 1) hE dX9_fastsBy_0 rfl rfl ?_
  refine x_iload_n (pc' := 2) hE dX9_fastsBy_1 rfl rfl ?_
  refine x_iload_n (pc' := 3) hE dX9_fastsBy_2 rfl rfl ?_
  refine x_iload (pc' := 5) hE dX9_fastsBy_3 rfl rfl ?_
  refine x_cS1 (pc' := 8) hE hM (okM G) hl hR (c_X9_readsBy l G _ _ _ _ _ (by omega) (by omega) (by omega) (by omega)) kX9_readsBy tM_X9_125 (by decide) dX9_fastsBy_5 rfl rfl (Nat.le_of_ble_eq_true rfl) (fun σ1 e1 => ?_)
  replace e1 := e1.symm
  subst e1
  refine x_istore (pc' := 10) hE dX9_fastsBy_8 rfl (by decide) rfl rfl ?_
  dsimp only [List.set]
  refine x_iload (pc' := 12) hE dX9_fastsBy_10 rfl rfl ?_
  refine x_bipush (pc' := 14) hE dX9_fastsBy_12 rfl (by decide +kernel) ?_
  refine x_irem (pc' := 15) hE dX9_fastsBy_14 rfl (by omega) (by omega) (by omega) (by omega) ?_
  refine x_iconst (pc' := 16) hE dX9_fastsBy_15 rfl ?_
  refine x_icmpne (tgt := 28) (pc' := 19) hE dX9_fastsBy_16 (by decide) rfl ⟨by omega, by omega⟩ ⟨by omega, by omega⟩ (fun h2 => ?_) (fun h2 => ?_)
  · refine x_iconst (pc' := 29) hE dX9_fastsBy_28 rfl ?_
    refine x_istore (pc' := 31) hE dX9_fastsBy_29 rfl (by decide) rfl rfl ?_
    dsimp only [List.set]
    refine x_iload (pc' := 33) hE dX9_fastsBy_31 rfl rfl ?_
    refine x_ifne (tgt := 66) (pc' := 36) hE dX9_fastsBy_33 (by decide) rfl ⟨by omega, by omega⟩ (fun h3 => ?_) (fun h3 => ?_)
    · exact absurd h3 (by decide)
    · refine x_iload_n (pc' := 37) hE dX9_fastsBy_36 rfl rfl ?_
      refine x_iconst (pc' := 38) hE dX9_fastsBy_37 rfl ?_
      refine x_icmpeq (tgt := 50) (pc' := 41) hE dX9_fastsBy_38 (by decide) rfl ⟨by omega, by omega⟩ ⟨by omega, by omega⟩ (fun h4 => ?_) (fun h4 => ?_)
      · refine x_iload_n (pc' := 51) hE dX9_fastsBy_50 rfl rfl ?_
        refine x_iconst (pc' := 52) hE dX9_fastsBy_51 rfl ?_
        refine x_icmpne (tgt := 70) (pc' := 55) hE dX9_fastsBy_52 (by decide) rfl ⟨by omega, by omega⟩ ⟨by omega, by omega⟩ (fun h5 => ?_) (fun h5 => ?_)
        · refine x_iconst (pc' := 71) hE dX9_fastsBy_70 rfl ?_
          refine x_zret hE dX9_fastsBy_71 (by rfl) ?_
          refine ⟨rb0 ?_, rfl⟩
          unfold fsB
          generalize rdB k f g d = r at *
          clear q0
          first | (simp_all; done) | (simp_all; omega) | (exfalso; omega)
        · refine x_aload_n (pc' := 56) hE dX9_fastsBy_55 rfl rfl ?_
          refine x_iload (pc' := 58) hE dX9_fastsBy_56 rfl rfl ?_
          refine x_iconst (pc' := 59) hE dX9_fastsBy_58 rfl ?_
          refine x_iadd (pc' := 60) hE dX9_fastsBy_59 rfl ?_
          refine x_cV1 (pc' := 63) hE hM (okM G) hl hR (c_X9_isFeast l G _ _ (by assumption) (by omega) (by omega)) kX9_isFeast tM_X9_112 (rcvM hM) (by decide) dX9_fastsBy_60 rfl rfl (Nat.le_of_ble_eq_true rfl) (fun σ6 e6 => ?_)
          replace e6 := e6.symm
          subst e6
          refine x_ifeqB (tgt := 70) (pc' := 66) hE dX9_fastsBy_63 (by decide) rfl (fun h7 => ?_) (fun h7 => ?_)
          · try simp only [decide_eq_true_eq, decide_eq_false_iff_not] at h7
            refine x_iconst (pc' := 71) hE dX9_fastsBy_70 rfl ?_
            refine x_zret hE dX9_fastsBy_71 (by rfl) ?_
            refine ⟨rb0 ?_, rfl⟩
            unfold fsB
            generalize rdB k f g d = r at *
            clear q0
            first | (simp_all; done) | (simp_all; omega) | (exfalso; omega)
          · try simp only [decide_eq_true_eq, decide_eq_false_iff_not] at h7
            refine x_iconst (pc' := 67) hE dX9_fastsBy_66 rfl ?_
            refine x_goto (tgt := 71) hE dX9_fastsBy_67 (by decide) ?_
            refine x_zret hE dX9_fastsBy_71 (by rfl) ?_
            refine ⟨rb1 ?_, rfl⟩
            unfold fsB
            generalize rdB k f g d = r at *
            clear q0
            first | (simp_all; done) | (simp_all; omega) | (exfalso; omega)
      · refine x_aload_n (pc' := 42) hE dX9_fastsBy_41 rfl rfl ?_
        refine x_iload (pc' := 44) hE dX9_fastsBy_42 rfl rfl ?_
        refine x_cV1 (pc' := 47) hE hM (okM G) hl hR (c_X9_isFeast l G _ _ (by assumption) (by omega) (by omega)) kX9_isFeast tM_X9_112 (rcvM hM) (by decide) dX9_fastsBy_44 rfl rfl (Nat.le_of_ble_eq_true rfl) (fun σ8 e8 => ?_)
        replace e8 := e8.symm
        subst e8
        refine x_ifneB (tgt := 66) (pc' := 50) hE dX9_fastsBy_47 (by decide) rfl (fun h9 => ?_) (fun h9 => ?_)
        · try simp only [decide_eq_true_eq, decide_eq_false_iff_not] at h9
          refine x_iconst (pc' := 67) hE dX9_fastsBy_66 rfl ?_
          refine x_goto (tgt := 71) hE dX9_fastsBy_67 (by decide) ?_
          refine x_zret hE dX9_fastsBy_71 (by rfl) ?_
          refine ⟨rb1 ?_, rfl⟩
          unfold fsB
          generalize rdB k f g d = r at *
          clear q0
          first | (simp_all; done) | (simp_all; omega) | (exfalso; omega)
        · try simp only [decide_eq_true_eq, decide_eq_false_iff_not] at h9
          refine x_iload_n (pc' := 51) hE dX9_fastsBy_50 rfl rfl ?_
          refine x_iconst (pc' := 52) hE dX9_fastsBy_51 rfl ?_
          refine x_icmpne (tgt := 70) (pc' := 55) hE dX9_fastsBy_52 (by decide) rfl ⟨by omega, by omega⟩ ⟨by omega, by omega⟩ (fun h10 => ?_) (fun h10 => ?_)
          · refine x_iconst (pc' := 71) hE dX9_fastsBy_70 rfl ?_
            refine x_zret hE dX9_fastsBy_71 (by rfl) ?_
            refine ⟨rb0 ?_, rfl⟩
            unfold fsB
            generalize rdB k f g d = r at *
            clear q0
            first | (simp_all; done) | (simp_all; omega) | (exfalso; omega)
          · refine x_aload_n (pc' := 56) hE dX9_fastsBy_55 rfl rfl ?_
            refine x_iload (pc' := 58) hE dX9_fastsBy_56 rfl rfl ?_
            refine x_iconst (pc' := 59) hE dX9_fastsBy_58 rfl ?_
            refine x_iadd (pc' := 60) hE dX9_fastsBy_59 rfl ?_
            refine x_cV1 (pc' := 63) hE hM (okM G) hl hR (c_X9_isFeast l G _ _ (by assumption) (by omega) (by omega)) kX9_isFeast tM_X9_112 (rcvM hM) (by decide) dX9_fastsBy_60 rfl rfl (Nat.le_of_ble_eq_true rfl) (fun σ11 e11 => ?_)
            replace e11 := e11.symm
            subst e11
            refine x_ifeqB (tgt := 70) (pc' := 66) hE dX9_fastsBy_63 (by decide) rfl (fun h12 => ?_) (fun h12 => ?_)
            · try simp only [decide_eq_true_eq, decide_eq_false_iff_not] at h12
              refine x_iconst (pc' := 71) hE dX9_fastsBy_70 rfl ?_
              refine x_zret hE dX9_fastsBy_71 (by rfl) ?_
              refine ⟨rb0 ?_, rfl⟩
              unfold fsB
              generalize rdB k f g d = r at *
              clear q0
              first | (simp_all; done) | (simp_all; omega) | (exfalso; omega)
            · try simp only [decide_eq_true_eq, decide_eq_false_iff_not] at h12
              refine x_iconst (pc' := 67) hE dX9_fastsBy_66 rfl ?_
              refine x_goto (tgt := 71) hE dX9_fastsBy_67 (by decide) ?_
              refine x_zret hE dX9_fastsBy_71 (by rfl) ?_
              refine ⟨rb1 ?_, rfl⟩
              unfold fsB
              generalize rdB k f g d = r at *
              clear q0
              first | (simp_all; done) | (simp_all; omega) | (exfalso; omega)
  · refine x_iload_n (pc' := 20) hE dX9_fastsBy_19 rfl rfl ?_
    refine x_iconst (pc' := 21) hE dX9_fastsBy_20 rfl ?_
    refine x_icmpeq (tgt := 28) (pc' := 24) hE dX9_fastsBy_21 (by decide) rfl ⟨by omega, by omega⟩ ⟨by omega, by omega⟩ (fun h13 => ?_) (fun h13 => ?_)
    · refine x_iconst (pc' := 29) hE dX9_fastsBy_28 rfl ?_
      refine x_istore (pc' := 31) hE dX9_fastsBy_29 rfl (by decide) rfl rfl ?_
      dsimp only [List.set]
      refine x_iload (pc' := 33) hE dX9_fastsBy_31 rfl rfl ?_
      refine x_ifne (tgt := 66) (pc' := 36) hE dX9_fastsBy_33 (by decide) rfl ⟨by omega, by omega⟩ (fun h14 => ?_) (fun h14 => ?_)
      · exact absurd h14 (by decide)
      · refine x_iload_n (pc' := 37) hE dX9_fastsBy_36 rfl rfl ?_
        refine x_iconst (pc' := 38) hE dX9_fastsBy_37 rfl ?_
        refine x_icmpeq (tgt := 50) (pc' := 41) hE dX9_fastsBy_38 (by decide) rfl ⟨by omega, by omega⟩ ⟨by omega, by omega⟩ (fun h15 => ?_) (fun h15 => ?_)
        · refine x_iload_n (pc' := 51) hE dX9_fastsBy_50 rfl rfl ?_
          refine x_iconst (pc' := 52) hE dX9_fastsBy_51 rfl ?_
          refine x_icmpne (tgt := 70) (pc' := 55) hE dX9_fastsBy_52 (by decide) rfl ⟨by omega, by omega⟩ ⟨by omega, by omega⟩ (fun h16 => ?_) (fun h16 => ?_)
          · refine x_iconst (pc' := 71) hE dX9_fastsBy_70 rfl ?_
            refine x_zret hE dX9_fastsBy_71 (by rfl) ?_
            refine ⟨rb0 ?_, rfl⟩
            unfold fsB
            generalize rdB k f g d = r at *
            clear q0
            first | (simp_all; done) | (simp_all; omega) | (exfalso; omega)
          · refine x_aload_n (pc' := 56) hE dX9_fastsBy_55 rfl rfl ?_
            refine x_iload (pc' := 58) hE dX9_fastsBy_56 rfl rfl ?_
            refine x_iconst (pc' := 59) hE dX9_fastsBy_58 rfl ?_
            refine x_iadd (pc' := 60) hE dX9_fastsBy_59 rfl ?_
            refine x_cV1 (pc' := 63) hE hM (okM G) hl hR (c_X9_isFeast l G _ _ (by assumption) (by omega) (by omega)) kX9_isFeast tM_X9_112 (rcvM hM) (by decide) dX9_fastsBy_60 rfl rfl (Nat.le_of_ble_eq_true rfl) (fun σ17 e17 => ?_)
            replace e17 := e17.symm
            subst e17
            refine x_ifeqB (tgt := 70) (pc' := 66) hE dX9_fastsBy_63 (by decide) rfl (fun h18 => ?_) (fun h18 => ?_)
            · try simp only [decide_eq_true_eq, decide_eq_false_iff_not] at h18
              refine x_iconst (pc' := 71) hE dX9_fastsBy_70 rfl ?_
              refine x_zret hE dX9_fastsBy_71 (by rfl) ?_
              refine ⟨rb0 ?_, rfl⟩
              unfold fsB
              generalize rdB k f g d = r at *
              clear q0
              first | (simp_all; done) | (simp_all; omega) | (exfalso; omega)
            · try simp only [decide_eq_true_eq, decide_eq_false_iff_not] at h18
              refine x_iconst (pc' := 67) hE dX9_fastsBy_66 rfl ?_
              refine x_goto (tgt := 71) hE dX9_fastsBy_67 (by decide) ?_
              refine x_zret hE dX9_fastsBy_71 (by rfl) ?_
              refine ⟨rb1 ?_, rfl⟩
              unfold fsB
              generalize rdB k f g d = r at *
              clear q0
              first | (simp_all; done) | (simp_all; omega) | (exfalso; omega)
        · refine x_aload_n (pc' := 42) hE dX9_fastsBy_41 rfl rfl ?_
          refine x_iload (pc' := 44) hE dX9_fastsBy_42 rfl rfl ?_
          refine x_cV1 (pc' := 47) hE hM (okM G) hl hR (c_X9_isFeast l G _ _ (by assumption) (by omega) (by omega)) kX9_isFeast tM_X9_112 (rcvM hM) (by decide) dX9_fastsBy_44 rfl rfl (Nat.le_of_ble_eq_true rfl) (fun σ19 e19 => ?_)
          replace e19 := e19.symm
          subst e19
          refine x_ifneB (tgt := 66) (pc' := 50) hE dX9_fastsBy_47 (by decide) rfl (fun h20 => ?_) (fun h20 => ?_)
          · try simp only [decide_eq_true_eq, decide_eq_false_iff_not] at h20
            refine x_iconst (pc' := 67) hE dX9_fastsBy_66 rfl ?_
            refine x_goto (tgt := 71) hE dX9_fastsBy_67 (by decide) ?_
            refine x_zret hE dX9_fastsBy_71 (by rfl) ?_
            refine ⟨rb1 ?_, rfl⟩
            unfold fsB
            generalize rdB k f g d = r at *
            clear q0
            first | (simp_all; done) | (simp_all; omega) | (exfalso; omega)
          · try simp only [decide_eq_true_eq, decide_eq_false_iff_not] at h20
            refine x_iload_n (pc' := 51) hE dX9_fastsBy_50 rfl rfl ?_
            refine x_iconst (pc' := 52) hE dX9_fastsBy_51 rfl ?_
            refine x_icmpne (tgt := 70) (pc' := 55) hE dX9_fastsBy_52 (by decide) rfl ⟨by omega, by omega⟩ ⟨by omega, by omega⟩ (fun h21 => ?_) (fun h21 => ?_)
            · refine x_iconst (pc' := 71) hE dX9_fastsBy_70 rfl ?_
              refine x_zret hE dX9_fastsBy_71 (by rfl) ?_
              refine ⟨rb0 ?_, rfl⟩
              unfold fsB
              generalize rdB k f g d = r at *
              clear q0
              first | (simp_all; done) | (simp_all; omega) | (exfalso; omega)
            · refine x_aload_n (pc' := 56) hE dX9_fastsBy_55 rfl rfl ?_
              refine x_iload (pc' := 58) hE dX9_fastsBy_56 rfl rfl ?_
              refine x_iconst (pc' := 59) hE dX9_fastsBy_58 rfl ?_
              refine x_iadd (pc' := 60) hE dX9_fastsBy_59 rfl ?_
              refine x_cV1 (pc' := 63) hE hM (okM G) hl hR (c_X9_isFeast l G _ _ (by assumption) (by omega) (by omega)) kX9_isFeast tM_X9_112 (rcvM hM) (by decide) dX9_fastsBy_60 rfl rfl (Nat.le_of_ble_eq_true rfl) (fun σ22 e22 => ?_)
              replace e22 := e22.symm
              subst e22
              refine x_ifeqB (tgt := 70) (pc' := 66) hE dX9_fastsBy_63 (by decide) rfl (fun h23 => ?_) (fun h23 => ?_)
              · try simp only [decide_eq_true_eq, decide_eq_false_iff_not] at h23
                refine x_iconst (pc' := 71) hE dX9_fastsBy_70 rfl ?_
                refine x_zret hE dX9_fastsBy_71 (by rfl) ?_
                refine ⟨rb0 ?_, rfl⟩
                unfold fsB
                generalize rdB k f g d = r at *
                clear q0
                first | (simp_all; done) | (simp_all; omega) | (exfalso; omega)
              · try simp only [decide_eq_true_eq, decide_eq_false_iff_not] at h23
                refine x_iconst (pc' := 67) hE dX9_fastsBy_66 rfl ?_
                refine x_goto (tgt := 71) hE dX9_fastsBy_67 (by decide) ?_
                refine x_zret hE dX9_fastsBy_71 (by rfl) ?_
                refine ⟨rb1 ?_, rfl⟩
                unfold fsB
                generalize rdB k f g d = r at *
                clear q0
                first | (simp_all; done) | (simp_all; omega) | (exfalso; omega)
    · refine x_iconst (pc' := 25) hE dX9_fastsBy_24 rfl ?_
      refine x_goto (tgt := 29) hE dX9_fastsBy_25 (by decide) ?_
      refine x_istore (pc' := 31) hE dX9_fastsBy_29 rfl (by decide) rfl rfl ?_
      dsimp only [List.set]
      refine x_iload (pc' := 33) hE dX9_fastsBy_31 rfl rfl ?_
      refine x_ifne (tgt := 66) (pc' := 36) hE dX9_fastsBy_33 (by decide) rfl ⟨by omega, by omega⟩ (fun h24 => ?_) (fun h24 => ?_)
      · refine x_iconst (pc' := 67) hE dX9_fastsBy_66 rfl ?_
        refine x_goto (tgt := 71) hE dX9_fastsBy_67 (by decide) ?_
        refine x_zret hE dX9_fastsBy_71 (by rfl) ?_
        refine ⟨rb1 ?_, rfl⟩
        unfold fsB
        generalize rdB k f g d = r at *
        clear q0
        first | (simp_all; done) | (simp_all; omega) | (exfalso; omega)
      · exact absurd h24 (by decide)
