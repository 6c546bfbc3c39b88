theorem allU_t {p : Int → Bool} : ∀ n : Nat, (∀ j : Int, 0 ≤ j → j < n → p j = true) → allU p n = true
  | 0, _ => rfl
  | n + 1, h => by rw [allU, allU_t n (fun j h0 h1 => h j h0 (by omega)), h n (by omega) (by omega)]; rfl
theorem allU_f {p : Int → Bool} {j : Int} (h0 : 0 ≤ j) (h : p j = false) : ∀ n : Nat, j < n → allU p n = false
  | 0, h1 => by omega
  | n + 1, h1 => by
    rw [allU]
    by_cases e : j = n
    · rw [← e, h, Bool.and_false]
    · rw [allU_f h0 h n (by omega), Bool.false_and]
set_option maxHeartbeats 4000000 in
set_option maxRecDepth 10000 in
theorem c_X8_fastsOnEnd (l : Launch) (G : GC) (σ : St) (W : Wd) (D : Int) (hRW : RW σ 0 W) (hWo : WOk D W) (hD : D ≤ 900000) (F : Int → Bool) (hRF : RF σ F) (p fg : Int) (p0 : 0 ≤ p) (p1 : p < W 0 0) (v0 : 0 ≤ fg) (v1 : fg ≤ 29) : Ct l (YC G) yX8_fastsOnEnd (.code yX8_fastsOnEnd cX8_fastsOnEnd 5 (some .int)) 2 [.ref (aC G 0 0 0), .ref (aC G 11 0 p), .int (iN fg)] σ (fun v σ' => v = some (.int (iN (nailG F (W 1 p) (W 3 p) (W 0 2) fg))) ∧ σ' = σ) := by
  refine Ct_of (own := RX8) [some (.ref (aC G 0 0 0)), some (.ref (aC G 11 0 p)), some (.int (iN fg)), none, none] rfl rfl (Nat.le_of_ble_eq_true rfl) rfl ?_
  intro E hE hM hl hR
  obtain ⟨r1, r2, r3, r4, r5, r6, r7⟩ := id hRW
  obtain ⟨o1, o2, o3, o4, o5, o6⟩ := id hWo
  have q1 := r5 p p0 p1
  have q2 := o4 p p0 (by omega)
  have loop : ∀ (n : Nat) (k : Int), 0 ≤ k → k ≤ 30 → 30 - k = n → nailG F (W 1 p) (W 3 p) (W 0 2) fg = runF (fun m => fsB F (W 1 p) fg (W 3 p) (W 0 2 + m)) (30 - k).toNat k → VV E 5 (AS (YC G)) (Qm (YC G) (fun v σ' => v = some (.int (iN (nailG F (W 1 p) (W 3 p) (W 0 2) fg))) ∧ σ' = σ) E) (Rh (YC G) (σ)) 2 [some (.ref (aC G 0 0 0)), some (.ref (aC G 11 0 p)), some (.int (iN fg)), some (.int (iN (k))), none] [] := by
    intro n
    induction n using Nat.strongRecOn with
    | _ n ih =>
    intro k g0 g1 g2 g3
    refine x_iload_n (pc' := 3) hE dX8_fastsOnEnd_2 rfl rfl ?_
    refine x_bipush (pc' := 5) hE dX8_fastsOnEnd_3 rfl (by decide +kernel) ?_
    refine x_icmpge (tgt := 55) (pc' := 8) hE dX8_fastsOnEnd_5 (by decide) rfl ⟨by omega, by omega⟩ ⟨by omega, by omega⟩ (fun h1 => ?_) (fun h1 => ?_)
    · refine x_bipush (pc' := 57) hE dX8_fastsOnEnd_55 rfl (by decide +kernel) ?_
      refine x_iret hE dX8_fastsOnEnd_57 ?_
      refine ⟨ri ?_, rfl⟩
      rw [g3, show (30 - k).toNat = 0 by omega]
      show _ = k
      omega
    · refine x_aload_n (pc' := 9) hE dX8_fastsOnEnd_8 rfl rfl ?_
      refine gN_X4_0 (pc' := 12) (by omega) (by omega) (by omega) hE hM (fun _ h => nF_X8_110 h) dX8_fastsOnEnd_9 rfl ?_
      refine x_aload_n (pc' := 13) hE dX8_fastsOnEnd_12 rfl rfl ?_
      refine g_X8_2 (pc' := 16) hE hM tF_X8_26 dX8_fastsOnEnd_13 rfl ?_
      refine gN_X7_6 (pc' := 19) (by omega) hE hM (fun _ h => nF_X8_210 h) dX8_fastsOnEnd_16 rfl ?_
      refine x_iload_n (pc' := 20) hE dX8_fastsOnEnd_19 rfl rfl ?_
      refine x_iadd (pc' := 21) hE dX8_fastsOnEnd_20 rfl ?_
      refine x_iload_n (pc' := 22) hE dX8_fastsOnEnd_21 rfl rfl ?_
      refine x_aload_n (pc' := 23) hE dX8_fastsOnEnd_22 rfl rfl ?_
      refine gN_X4_2 (pc' := 26) (by omega) (by omega) (by omega) hE hM (fun _ h => nF_X8_120 h) dX8_fastsOnEnd_23 rfl ?_
      refine x_cV1 (pc' := 29) hE hM (okC G) hl hR (c_X3_reads l G _ _ _ _ _ (by omega) (by omega)) kX3_reads tM_X8_288 (rcvK (by omega) (by omega) hM) (by decide) dX8_fastsOnEnd_26 rfl rfl (Nat.le_of_ble_eq_true rfl) (fun σ2 e2 => ?_)
      replace e2 := e2.symm
      subst e2
      rw [q1.1, q1.2.2, r3]
      have q5 := rdB_bd (k := W 1 p) (f := fg) (g := W 3 p) (d := W 0 2 + k) (by omega) (by omega) (by omega)
      refine x_istore (pc' := 31) hE dX8_fastsOnEnd_29 rfl (by decide) rfl rfl ?_
      dsimp only [List.set]
      refine x_aload_n (pc' := 32) hE dX8_fastsOnEnd_31 rfl rfl ?_
      refine gN_X4_0 (pc' := 35) (by omega) (by omega) (by omega) hE hM (fun _ h => nF_X8_110 h) dX8_fastsOnEnd_32 rfl ?_
      refine x_iload (pc' := 37) hE dX8_fastsOnEnd_35 rfl rfl ?_
      refine x_aload_n (pc' := 38) hE dX8_fastsOnEnd_37 rfl rfl ?_
      refine g_X8_1 (pc' := 41) hE hM tF_X8_19 dX8_fastsOnEnd_38 rfl ?_
      refine x_cV1 (pc' := 44) hE hM (okC G) hl hR (c_X3_fastsOn l G _ _ (by assumption) _ _ (by omega) (by omega) (by omega) (by omega)) kX3_fastsOn tM_X8_127 (rcvK (by omega) (by omega) hM) (by decide) dX8_fastsOnEnd_41 rfl rfl (Nat.le_of_ble_eq_true rfl) (fun σ3 e3 => ?_)
      replace e3 := e3.symm
      subst e3
      rw [q1.1, ← fsB_r]
      refine x_ifneB (tgt := 49) (pc' := 47) hE dX8_fastsOnEnd_44 (by decide) rfl (fun h4 => ?_) (fun h4 => ?_)
      · try simp only [decide_eq_true_eq, decide_eq_false_iff_not] at h4
        refine x_iinc (pc' := 52) hE dX8_fastsOnEnd_49 rfl rfl (by decide) rfl rfl ?_
        dsimp only [List.set]
        refine x_goto (tgt := 2) hE dX8_fastsOnEnd_52 (by decide) ?_
        refine x_fgb ?_
        refine ih (n - 1) (by omega) (k + 1) (by omega) (by omega) (by omega) ?_
        rw [g3, show (30 - k).toNat = (30 - (k + 1)).toNat + 1 by omega, runF, if_pos h4]
      · try simp only [decide_eq_true_eq, decide_eq_false_iff_not] at h4
        refine x_iload_n (pc' := 48) hE dX8_fastsOnEnd_47 rfl rfl ?_
        refine x_iret hE dX8_fastsOnEnd_48 ?_
        refine ⟨ri ?_, rfl⟩
        rw [g3, show (30 - k).toNat = (30 - (k + 1)).toNat + 1 by omega, runF, if_neg (by simp [h4])]
  refine x_iconst (pc' := 1) hE dX8_fastsOnEnd_0 rfl ?_
  refine x_istore_n (pc' := 2) hE dX8_fastsOnEnd_1 rfl (by decide) rfl rfl ?_
  dsimp only [List.set]
  exact loop 30 0 (by omega) (by omega) (by omega) rfl
set_option maxHeartbeats 4000000 in
set_option maxRecDepth 10000 in
theorem c_X8_didJustSo (l : Launch) (G : GC) (σ : St) (W : Wd) (D : Int) (hRW : RW σ 0 W) (hWo : WOk D W) (hD : D ≤ 900000) (F : Int → Bool) (hRF : RF σ F) (pk fr sn : Int) (S : Int → Int) (hRS : RS σ 0 pk fr sn S) (hfr : 0 ≤ fr ∧ fr ≤ 900000) (hsn : 0 ≤ sn ∧ sn ≤ 8) (k c g : Int) (k0 : 0 ≤ k) (k1 : k ≤ 4) (c0 : 0 ≤ c) (c1 : c < 8) (e0 : 0 ≤ g) (e1 : g ≤ 9) : Ct l (YC G) yX8_didJustSo (.code yX8_didJustSo cX8_didJustSo 6 (some .boolean)) 2 [.ref (aC G 0 0 0), .ref (eC G k), .int (iN c), .int (iN g)] σ (fun v σ' => v = some (.int (bI (snB F (W 7 c) k g fr S sn.toNat))) ∧ σ' = σ) := by
  refine Ct_of (own := RX8) [some (.ref (aC G 0 0 0)), some (.ref (eC G k)), some (.int (iN c)), some (.int (iN g)), none, none] rfl rfl (Nat.le_of_ble_eq_true rfl) rfl ?_
  intro E hE hM hl hR
  obtain ⟨r1, r2, r3, r4, r5, r6, r7⟩ := id hRW
  obtain ⟨o1, o2, o3, o4, o5, o6⟩ := id hWo
  obtain ⟨s1, s2, s3, s4⟩ := id hRS
  have q1 := r7 c c0 c1
  have q2 := o6 c c0 c1
  have loop : ∀ (n : Nat) (j : Int), (∀ i, 0 ≤ i → i < j → (fun j => fsB F k (W 7 c) g (fr + j) == decide (S j = 0)) i = true) → 0 ≤ j → j ≤ sn → sn - j = n → VV E 6 (AS (YC G)) (Qm (YC G) (fun v σ' => v = some (.int (bI (snB F (W 7 c) k g fr S sn.toNat))) ∧ σ' = σ) E) (Rh (YC G) (σ)) 3 [some (.ref (aC G 0 0 0)), some (.ref (eC G k)), some (.int (iN c)), some (.int (iN g)), some (.int (iN (j))), none] [] := by
    intro n
    induction n using Nat.strongRecOn with
    | _ n ih =>
    intro j hA g0 g1 g2
    refine x_iload (pc' := 5) hE dX8_didJustSo_3 rfl rfl ?_
    refine x_aload_n (pc' := 6) hE dX8_didJustSo_5 rfl rfl ?_
    refine g_X8_2 (pc' := 9) hE hM tF_X8_26 dX8_didJustSo_6 rfl ?_
    refine gN_X7_3 (pc' := 12) (by omega) hE hM (fun _ h => nF_X8_201 h) dX8_didJustSo_9 rfl ?_
    refine gN_X6_2 (pc' := 15) (by omega) hE hM (fun _ h => nF_X8_205 h) dX8_didJustSo_12 rfl ?_
    refine x_icmpge (tgt := 80) (pc' := 18) hE dX8_didJustSo_15 (by decide) rfl ⟨by omega, by omega⟩ ⟨by omega, by omega⟩ (fun h1 => ?_) (fun h1 => ?_)
    · refine x_iconst (pc' := 81) hE dX8_didJustSo_80 rfl ?_
      refine x_zret hE dX8_didJustSo_81 (by rfl) ?_
      exact ⟨rb1 (allU_t _ (fun i i0 i1 => hA i i0 (by omega))), rfl⟩
    · refine x_aload_n (pc' := 19) hE dX8_didJustSo_18 rfl rfl ?_
      refine x_aload_n (pc' := 20) hE dX8_didJustSo_19 rfl rfl ?_
      refine g_X8_2 (pc' := 23) hE hM tF_X8_26 dX8_didJustSo_20 rfl ?_
      refine gN_X7_3 (pc' := 26) (by omega) hE hM (fun _ h => nF_X8_201 h) dX8_didJustSo_23 rfl ?_
      refine gN_X6_1 (pc' := 29) (by omega) hE hM (fun _ h => nF_X8_298 h) dX8_didJustSo_26 rfl ?_
      refine x_iload (pc' := 31) hE dX8_didJustSo_29 rfl rfl ?_
      refine x_iadd (pc' := 32) hE dX8_didJustSo_31 rfl ?_
      refine x_aload_n (pc' := 33) hE dX8_didJustSo_32 rfl rfl ?_
      refine g_X8_2 (pc' := 36) hE hM tF_X8_26 dX8_didJustSo_33 rfl ?_
      refine gN_X7_2 (pc' := 39) (by omega) hE hM (fun _ h => nF_X8_83 h) dX8_didJustSo_36 rfl ?_
      refine x_iload_n (pc' := 40) hE dX8_didJustSo_39 rfl rfl ?_
      refine aC_9 (pc' := 41) (by omega) hE hM (by omega) (by omega) dX8_didJustSo_40 rfl ?_
      refine x_iload_n (pc' := 42) hE dX8_didJustSo_41 rfl rfl ?_
      refine x_cV1 (pc' := 45) hE hM (okC G) hl hR (c_X3_reads l G _ _ _ _ _ (by omega) (by omega)) kX3_reads tM_X8_288 (rcvK (by omega) (by omega) hM) (by decide) dX8_didJustSo_42 rfl rfl (Nat.le_of_ble_eq_true rfl) (fun σ2 e2 => ?_)
      replace e2 := e2.symm
      subst e2
      rw [q1, s2]
      have q5 := rdB_bd (k := k) (f := W 7 c) (g := g) (d := fr + j) (by omega) (by omega) (by omega)
      refine x_istore (pc' := 47) hE dX8_didJustSo_45 rfl (by decide) rfl rfl ?_
      dsimp only [List.set]
      refine x_aload_n (pc' := 48) hE dX8_didJustSo_47 rfl rfl ?_
      refine x_iload (pc' := 50) hE dX8_didJustSo_48 rfl rfl ?_
      refine x_aload_n (pc' := 51) hE dX8_didJustSo_50 rfl rfl ?_
      refine g_X8_1 (pc' := 54) hE hM tF_X8_19 dX8_didJustSo_51 rfl ?_
      refine x_cV1 (pc' := 57) hE hM (okC G) hl hR (c_X3_fastsOn l G _ _ (by assumption) _ _ (by omega) (by omega) (by omega) (by omega)) kX3_fastsOn tM_X8_127 (rcvK (by omega) (by omega) hM) (by decide) dX8_didJustSo_54 rfl rfl (Nat.le_of_ble_eq_true rfl) (fun σ3 e3 => ?_)
      replace e3 := e3.symm
      subst e3
      rw [← fsB_r]
      refine x_aload_n (pc' := 58) hE dX8_didJustSo_57 rfl rfl ?_
      refine g_X8_2 (pc' := 61) hE hM tF_X8_26 dX8_didJustSo_58 rfl ?_
      refine gN_X7_3 (pc' := 64) (by omega) hE hM (fun _ h => nF_X8_201 h) dX8_didJustSo_61 rfl ?_
      refine x_iload (pc' := 66) hE dX8_didJustSo_64 rfl rfl ?_
      refine x_cV1 (pc' := 69) hE hM (okC G) hl hR (c_X6_huntedAt l G _ _ (by omega) _ s4 _ (by omega) (by omega)) kX6_huntedAt tM_X8_301 (rcv_X6 (by omega) hM) (by decide) dX8_didJustSo_66 rfl rfl (Nat.le_of_ble_eq_true rfl) (fun σ4 e4 => ?_)
      replace e4 := e4.symm
      subst e4
      refine x_icmpneB (tgt := 74) (pc' := 72) hE dX8_didJustSo_69 (by decide) rfl (fun h5 => ?_) (fun h5 => ?_)
      · try simp only [decide_eq_true_eq, decide_eq_false_iff_not] at h5
        refine x_iinc (pc' := 77) hE dX8_didJustSo_74 rfl rfl (by decide) rfl rfl ?_
        dsimp only [List.set]
        refine x_goto (tgt := 3) hE dX8_didJustSo_77 (by decide) ?_
        refine x_fg5 ?_
        refine ih (n - 1) (by omega) (j + 1) (fun i i0 i1 => ?_) (by omega) (by omega) (by omega)
        by_cases e : i = j
        · rw [e]
          have hj : decide (j < sn) = true := decide_eq_true (by omega)
          have h9 := h5
          rw [hj, Bool.true_and] at h9
          try dsimp only
          revert h9
          cases fsB F k (W 7 c) g (fr + j) <;> by_cases z : S j = 0 <;> simp [z]
        · exact hA i i0 (by omega)
      · try simp only [decide_eq_true_eq, decide_eq_false_iff_not] at h5
        refine x_iconst (pc' := 73) hE dX8_didJustSo_72 rfl ?_
        refine x_zret hE dX8_didJustSo_73 (by rfl) ?_
        refine ⟨rb0 (allU_f (j := j) g0 ?_ _ (by omega)), rfl⟩
        have hj : decide (j < sn) = true := decide_eq_true (by omega)
        try dsimp only
        rw [h5, hj, Bool.true_and]
        by_cases z : S j = 0 <;> simp [z]
  refine x_iconst (pc' := 1) hE dX8_didJustSo_0 rfl ?_
  refine x_istore (pc' := 3) hE dX8_didJustSo_1 rfl (by decide) rfl rfl ?_
  dsimp only [List.set]
  exact loop sn.toNat 0 (fun i i0 i1 => by omega) (by omega) (by omega) (by omega)
set_option maxHeartbeats 4000000 in
set_option maxRecDepth 10000 in
theorem c_X8_fittingLags (l : Launch) (G : GC) (σ : St) (W : Wd) (D : Int) (hRW : RW σ 0 W) (hWo : WOk D W) (hD : D ≤ 900000) (F : Int → Bool) (hRF : RF σ F) (pk fr sn : Int) (S : Int → Int) (hRS : RS σ 0 pk fr sn S) (hfr : 0 ≤ fr ∧ fr ≤ 900000) (hsn : 0 ≤ sn ∧ sn ≤ 8) (p : Int) (p0 : 0 ≤ p) (p1 : p < W 0 0) : Ct l (YC G) yX8_fittingLags (.code yX8_fittingLags cX8_fittingLags 4 (some .int)) 3 [.ref (aC G 0 0 0), .ref (aC G 11 0 p)] σ (fun v σ' => v = some (.int (iN (fitW F (W 7 (W 2 p)) (W 3 p) fr S sn.toNat 0))) ∧ σ' = σ) := by
  refine Ct_of (own := RX8) [some (.ref (aC G 0 0 0)), some (.ref (aC G 11 0 p)), none, none] rfl rfl (Nat.le_of_ble_eq_true rfl) rfl ?_
  intro E hE hM hl hR
  obtain ⟨r1, r2, r3, r4, r5, r6, r7⟩ := id hRW
  obtain ⟨o1, o2, o3, o4, o5, o6⟩ := id hWo
  have q1 := r5 p p0 p1
  have q2 := o4 p p0 (by omega)
  have loop : ∀ (n : Nat) (k : Int), 0 ≤ k → k ≤ 10 → 10 - k = n → VV E 4 (AS (YC G)) (Qm (YC G) (fun v σ' => v = some (.int (iN (fitW F (W 7 (W 2 p)) (W 3 p) fr S sn.toNat 0))) ∧ σ' = σ) E) (Rh (YC G) (σ)) 4 [some (.ref (aC G 0 0 0)), some (.ref (aC G 11 0 p)), some (.int (fitR (fun k => snB F (W 7 (W 2 p)) 3 k fr S sn.toNat) k.toNat)), some (.int (iN (k)))] [] := by
    intro n
    induction n using Nat.strongRecOn with
    | _ n ih =>
    intro k g0 g1 g2
    refine x_iload_n (pc' := 5) hE dX8_fittingLags_4 rfl rfl ?_
    refine x_bipush (pc' := 7) hE dX8_fittingLags_5 rfl (by decide +kernel) ?_
    refine x_icmpge (tgt := 37) (pc' := 10) hE dX8_fittingLags_7 (by decide) rfl ⟨by omega, by omega⟩ ⟨by omega, by omega⟩ (fun h1 => ?_) (fun h1 => ?_)
    · refine x_iload_n (pc' := 38) hE dX8_fittingLags_37 rfl rfl ?_
      refine x_iret hE dX8_fittingLags_38 ?_
      have e : k = 10 := by omega
      subst e
      refine ⟨?_, rfl⟩
      unfold fitW
      rw [fitN_i]
      rfl
    · refine x_aload_n (pc' := 11) hE dX8_fittingLags_10 rfl rfl ?_
      refine x_sget (pc' := 14) (i := 3) hE hM (by decide) rfl tF_X8_291 dX8_fittingLags_11 rfl ?_
      refine x_aload_n (pc' := 15) hE dX8_fittingLags_14 rfl rfl ?_
      refine gN_X4_1 (pc' := 18) (by omega) (by omega) (by omega) hE hM (fun _ h => nF_X8_117 h) dX8_fittingLags_15 rfl ?_
      refine x_iload_n (pc' := 19) hE dX8_fittingLags_18 rfl rfl ?_
      refine x_cV1 (pc' := 22) hE hM (okC G) hl hR (c_X8_didJustSo l G _ _ _ (by assumption) (by assumption) (by omega) _ (by assumption) _ _ _ _ (by assumption) hfr hsn _ _ _ (by omega) (by omega) (by omega) (by omega) (by omega) (by omega)) kX8_didJustSo tM_X8_294 (rcv_X8 hM) (by decide) dX8_fittingLags_19 rfl rfl (Nat.le_of_ble_eq_true rfl) (fun σ2 e2 => ?_)
      replace e2 := e2.symm
      subst e2
      rw [q1.2.1]
      refine x_ifeqB (tgt := 31) (pc' := 25) hE dX8_fittingLags_22 (by decide) rfl (fun h3 => ?_) (fun h3 => ?_)
      · try simp only [decide_eq_true_eq, decide_eq_false_iff_not] at h3
        refine x_iinc (pc' := 34) hE dX8_fittingLags_31 rfl rfl (by decide) rfl rfl ?_
        dsimp only [List.set]
        refine x_goto (tgt := 4) hE dX8_fittingLags_34 (by decide) ?_
        refine x_lve (lv' := [some (.ref (aC G 0 0 0)), some (.ref (aC G 11 0 p)), some (.int (fitR (fun k => snB F (W 7 (W 2 p)) 3 k fr S sn.toNat) (k + 1).toNat)), some (.int (iN (k + 1)))]) ?_ (ih (n - 1) (by omega) (k + 1) (by omega) (by omega) (by omega))
        rw [fitR_s _ g0]
        have h9 : (fun k => snB F (W 7 (W 2 p)) 3 k fr S sn.toNat) k = false := h3
        simp only [h9]
        rfl
      · try simp only [decide_eq_true_eq, decide_eq_false_iff_not] at h3
        refine x_iload_n (pc' := 26) hE dX8_fittingLags_25 rfl rfl ?_
        refine x_iconst (pc' := 27) hE dX8_fittingLags_26 rfl ?_
        refine x_iload_n (pc' := 28) hE dX8_fittingLags_27 rfl rfl ?_
        refine x_ishl (pc' := 29) hE dX8_fittingLags_28 rfl ?_
        refine x_ior (pc' := 30) hE dX8_fittingLags_29 rfl ?_
        refine x_istore_n (pc' := 31) hE dX8_fittingLags_30 rfl (by decide) rfl rfl ?_
        dsimp only [List.set]
        refine x_iinc (pc' := 34) hE dX8_fittingLags_31 rfl rfl (by decide) rfl rfl ?_
        dsimp only [List.set]
        refine x_goto (tgt := 4) hE dX8_fittingLags_34 (by decide) ?_
        refine x_lve (lv' := [some (.ref (aC G 0 0 0)), some (.ref (aC G 11 0 p)), some (.int (fitR (fun k => snB F (W 7 (W 2 p)) 3 k fr S sn.toNat) (k + 1).toNat)), some (.int (iN (k + 1)))]) ?_ (ih (n - 1) (by omega) (k + 1) (by omega) (by omega) (by omega))
        rw [fitR_s _ g0]
        have h9 : (fun k => snB F (W 7 (W 2 p)) 3 k fr S sn.toNat) k = true := h3
        simp only [h9]
        rfl
  refine x_iconst (pc' := 1) hE dX8_fittingLags_0 rfl ?_
  refine x_istore_n (pc' := 2) hE dX8_fittingLags_1 rfl (by decide) rfl rfl ?_
  dsimp only [List.set]
  refine x_iconst (pc' := 3) hE dX8_fittingLags_2 rfl ?_
  refine x_istore_n (pc' := 4) hE dX8_fittingLags_3 rfl (by decide) rfl rfl ?_
  dsimp only [List.set]
  exact loop 10 0 (by omega) (by omega) (by omega)
set_option maxHeartbeats 4000000 in
set_option maxRecDepth 10000 in
theorem c_X8_fittingKinds (l : Launch) (G : GC) (σ : St) (W : Wd) (D : Int) (hRW : RW σ 0 W) (hWo : WOk D W) (hD : D ≤ 900000) (F : Int → Bool) (hRF : RF σ F) (pk fr sn : Int) (S : Int → Int) (hRS : RS σ 0 pk fr sn S) (hfr : 0 ≤ fr ∧ fr ≤ 900000) (hsn : 0 ≤ sn ∧ sn ≤ 8) (p : Int) (p0 : 0 ≤ p) (p1 : p < W 0 0) : Ct l (YC G) yX8_fittingKinds (.code yX8_fittingKinds cX8_fittingKinds 4 (some .int)) 3 [.ref (aC G 0 0 0), .ref (aC G 11 0 p)] σ (fun v σ' => v = some (.int (iN (fitW F (W 7 (W 2 p)) (W 3 p) fr S sn.toNat 1))) ∧ σ' = σ) := by
  refine Ct_of (own := RX8) [some (.ref (aC G 0 0 0)), some (.ref (aC G 11 0 p)), none, none] rfl rfl (Nat.le_of_ble_eq_true rfl) rfl ?_
  intro E hE hM hl hR
  obtain ⟨r1, r2, r3, r4, r5, r6, r7⟩ := id hRW
  obtain ⟨o1, o2, o3, o4, o5, o6⟩ := id hWo
  have q1 := r5 p p0 p1
  have q2 := o4 p p0 (by omega)
  have loop : ∀ (n : Nat) (k : Int), 0 ≤ k → k ≤ 5 → 5 - k = n → VV E 4 (AS (YC G)) (Qm (YC G) (fun v σ' => v = some (.int (iN (fitW F (W 7 (W 2 p)) (W 3 p) fr S sn.toNat 1))) ∧ σ' = σ) E) (Rh (YC G) (σ)) 4 [some (.ref (aC G 0 0 0)), some (.ref (aC G 11 0 p)), some (.int (fitR (fun k => snB F (W 7 (W 2 p)) k (W 3 p) fr S sn.toNat) k.toNat)), some (.int (iN (k)))] [] := by
    intro n
    induction n using Nat.strongRecOn with
    | _ n ih =>
    intro k g0 g1 g2
    refine x_iload_n (pc' := 5) hE dX8_fittingKinds_4 rfl rfl ?_
    refine x_kinds (pc' := 8) hE hM tF_X8_97 dX8_fittingKinds_5 rfl ?_
    refine x_klen (pc' := 9) hE hM dX8_fittingKinds_8 rfl ?_
    refine x_icmpge (tgt := 44) (pc' := 12) hE dX8_fittingKinds_9 (by decide) rfl ⟨by omega, by omega⟩ ⟨by omega, by omega⟩ (fun h1 => ?_) (fun h1 => ?_)
    · refine x_iload_n (pc' := 45) hE dX8_fittingKinds_44 rfl rfl ?_
      refine x_iret hE dX8_fittingKinds_45 ?_
      have e : k = 5 := by omega
      subst e
      refine ⟨?_, rfl⟩
      unfold fitW
      rw [fitN_i]
      rfl
    · refine x_aload_n (pc' := 13) hE dX8_fittingKinds_12 rfl rfl ?_
      refine x_kinds (pc' := 16) hE hM tF_X8_97 dX8_fittingKinds_13 rfl ?_
      refine x_iload_n (pc' := 17) hE dX8_fittingKinds_16 rfl rfl ?_
      refine x_kald (pc' := 18) hE hM (by omega) (by omega) dX8_fittingKinds_17 rfl ?_
      refine x_aload_n (pc' := 19) hE dX8_fittingKinds_18 rfl rfl ?_
      refine gN_X4_1 (pc' := 22) (by omega) (by omega) (by omega) hE hM (fun _ h => nF_X8_117 h) dX8_fittingKinds_19 rfl ?_
      refine x_aload_n (pc' := 23) hE dX8_fittingKinds_22 rfl rfl ?_
      refine gN_X4_2 (pc' := 26) (by omega) (by omega) (by omega) hE hM (fun _ h => nF_X8_120 h) dX8_fittingKinds_23 rfl ?_
      refine x_cV1 (pc' := 29) hE hM (okC G) hl hR (c_X8_didJustSo l G _ _ _ (by assumption) (by assumption) (by omega) _ (by assumption) _ _ _ _ (by assumption) hfr hsn _ _ _ (by omega) (by omega) (by omega) (by omega) (by omega) (by omega)) kX8_didJustSo tM_X8_294 (rcv_X8 hM) (by decide) dX8_fittingKinds_26 rfl rfl (Nat.le_of_ble_eq_true rfl) (fun σ2 e2 => ?_)
      replace e2 := e2.symm
      subst e2
      rw [q1.2.1, q1.2.2]
      refine x_ifeqB (tgt := 38) (pc' := 32) hE dX8_fittingKinds_29 (by decide) rfl (fun h3 => ?_) (fun h3 => ?_)
      · try simp only [decide_eq_true_eq, decide_eq_false_iff_not] at h3
        refine x_iinc (pc' := 41) hE dX8_fittingKinds_38 rfl rfl (by decide) rfl rfl ?_
        dsimp only [List.set]
        refine x_goto (tgt := 4) hE dX8_fittingKinds_41 (by decide) ?_
        refine x_lve (lv' := [some (.ref (aC G 0 0 0)), some (.ref (aC G 11 0 p)), some (.int (fitR (fun k => snB F (W 7 (W 2 p)) k (W 3 p) fr S sn.toNat) (k + 1).toNat)), some (.int (iN (k + 1)))]) ?_ (ih (n - 1) (by omega) (k + 1) (by omega) (by omega) (by omega))
        rw [fitR_s _ g0]
        have h9 : (fun k => snB F (W 7 (W 2 p)) k (W 3 p) fr S sn.toNat) k = false := h3
        simp only [h9]
        rfl
      · try simp only [decide_eq_true_eq, decide_eq_false_iff_not] at h3
        refine x_iload_n (pc' := 33) hE dX8_fittingKinds_32 rfl rfl ?_
        refine x_iconst (pc' := 34) hE dX8_fittingKinds_33 rfl ?_
        refine x_iload_n (pc' := 35) hE dX8_fittingKinds_34 rfl rfl ?_
        refine x_ishl (pc' := 36) hE dX8_fittingKinds_35 rfl ?_
        refine x_ior (pc' := 37) hE dX8_fittingKinds_36 rfl ?_
        refine x_istore_n (pc' := 38) hE dX8_fittingKinds_37 rfl (by decide) rfl rfl ?_
        dsimp only [List.set]
        refine x_iinc (pc' := 41) hE dX8_fittingKinds_38 rfl rfl (by decide) rfl rfl ?_
        dsimp only [List.set]
        refine x_goto (tgt := 4) hE dX8_fittingKinds_41 (by decide) ?_
        refine x_lve (lv' := [some (.ref (aC G 0 0 0)), some (.ref (aC G 11 0 p)), some (.int (fitR (fun k => snB F (W 7 (W 2 p)) k (W 3 p) fr S sn.toNat) (k + 1).toNat)), some (.int (iN (k + 1)))]) ?_ (ih (n - 1) (by omega) (k + 1) (by omega) (by omega) (by omega))
        rw [fitR_s _ g0]
        have h9 : (fun k => snB F (W 7 (W 2 p)) k (W 3 p) fr S sn.toNat) k = true := h3
        simp only [h9]
        rfl
  refine x_iconst (pc' := 1) hE dX8_fittingKinds_0 rfl ?_
  refine x_istore_n (pc' := 2) hE dX8_fittingKinds_1 rfl (by decide) rfl rfl ?_
  dsimp only [List.set]
  refine x_iconst (pc' := 3) hE dX8_fittingKinds_2 rfl ?_
  refine x_istore_n (pc' := 4) hE dX8_fittingKinds_3 rfl (by decide) rfl rfl ?_
  dsimp only [List.set]
  exact loop 5 0 (by omega) (by omega) (by omega)
set_option maxHeartbeats 4000000 in
set_option maxRecDepth 10000 in
theorem c_X8_mixed (l : Launch) (G : GC) (σ : St) (h t : Int) : Ct l (YC G) yX8_mixed (.code yX8_mixed cX8_mixed 4 (some .long)) 0 [.long (lL h), .long (lL t)] σ (fun v σ' => v = some (.long (lL (31 * h + t))) ∧ σ' = σ) := by
  refine Ct_of (own := RX8) [some (.long (lL h)), none, some (.long (lL t)), none] rfl rfl (Nat.le_of_ble_eq_true rfl) rfl ?_
  intro E hE hM hl hR
  refine x_ldc2 (pc' := 3) hE dX8_mixed_0 rfl tV_X8_304 ?_
  refine x_lload_n (pc' := 4) hE dX8_mixed_3 rfl rfl ?_
  refine x_lmul (pc' := 5) hE dX8_mixed_4 rfl ?_
  refine x_lload_n (pc' := 6) hE dX8_mixed_5 rfl rfl ?_
  refine x_ladd (pc' := 7) hE dX8_mixed_6 rfl ?_
  refine x_st (st' := [.long (lL (31 * h + t))]) (by rw [show (31 : Int64) = lL 31 by decide +kernel, lL_mul, lL_add]) ?_
  refine x_lret hE dX8_mixed_7 ?_
  exact ⟨rfl, rfl⟩
