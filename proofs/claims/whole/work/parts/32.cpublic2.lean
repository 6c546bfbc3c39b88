set_option maxHeartbeats 4000000 in
set_option maxRecDepth 10000 in
theorem c_X8_feasts (l : Launch) (G : GC) (σ : St) (τ : St) (B : Int) (hI : IM B τ) (hC : RC σ τ) (hB : B ≤ 800000) : Ct l (YC G) yX8_feasts (.code yX8_feasts cX8_feasts 1 (some .int)) 4 [.ref (aC G 0 0 0)] σ (fun v σ' => v = some (.int (iN (aFeasts τ))) ∧ RC σ' (sFeasts τ)) := by
  refine Ct_of (own := RX8) [some (.ref (aC G 0 0 0))] rfl rfl (Nat.le_of_ble_eq_true rfl) rfl ?_
  intro E hE hM hl hR
  obtain ⟨hW, hF, hrd, hak, hpl, hpg, hwt, hfr, hsn, hso, hce, hkp, hkk⟩ := id hI
  obtain ⟨hnp, hnf, hday, hpp, hff, hcc⟩ := WT_of hW
  obtain ⟨cP, ⟨cN, hRF⟩, hRW, cS, cI, cK, cR, cA⟩ := id hC
  obtain ⟨r1, r2, r3, r4, r5, r6, r7⟩ := id hRW
  obtain ⟨p1, p2⟩ := id cP
  have w00 : wv τ 0 0 = τ 0 0 0 5 := rfl
  have w01 : wv τ 0 1 = τ 0 0 0 9 := rfl
  have w02 : wv τ 0 2 = τ 0 0 0 3 := rfl
  refine x_aload_n (pc' := 1) hE dX8_feasts_0 rfl rfl ?_
  refine g_X8_0 (pc' := 4) hE hM tF_X8_12 dX8_feasts_1 rfl ?_
  refine x_cV1 (pc' := 7) hE hM (okC G) hl hR (c_X5_isWhole l G _ _ _ cP (by omega) hpg) kX5_isWhole tM_X8_58 (rcv_X5 hM) (by decide) dX8_feasts_4 rfl rfl (Nat.le_of_ble_eq_true rfl) (fun σ1 e1 => ?_)
  replace e1 := e1.symm
  subst e1
  refine x_ifneB (tgt := 13) (pc' := 10) hE dX8_feasts_7 (by decide) rfl (fun h2 => ?_) (fun h2 => ?_)
  · try simp only [decide_eq_true_eq, decide_eq_false_iff_not] at h2
    have hwh : whl (τ 10 0 0) (τ 0 0 0 18) = true := h2
    have hw4 := (whl_ok hwh hpl.1).1
    refine x_aload_n (pc' := 14) hE dX8_feasts_13 rfl rfl ?_
    refine g_X8_1 (pc' := 17) hE hM tF_X8_19 dX8_feasts_14 rfl ?_
    refine x_aload_n (pc' := 18) hE dX8_feasts_17 rfl rfl ?_
    refine g_X8_0 (pc' := 21) hE hM tF_X8_12 dX8_feasts_18 rfl ?_
    refine x_cV0 (pc' := 24) hE hM (okC G) hl hR (c_X1_readFrom l G _ _ _ cP (by omega) hpg hwh (by omega)) kX1_readFrom tM_X8_62 (rcv_X1 hM) (by decide) dX8_feasts_21 rfl rfl (Nat.le_of_ble_eq_true rfl) (fun σ3 e3 => ?_)
    obtain ⟨hN2, hm2, hf2⟩ := e3
    generalize σ3 = S at *
    refine x_aload_n (pc' := 25) hE dX8_feasts_24 rfl rfl ?_
    refine g_X8_0 (pc' := 28) hE hM tF_X8_12 dX8_feasts_25 rfl ?_
    refine x_cV0 (pc' := 31) hE hM (okC G) hl hR (c_X5_clear l G _) kX5_clear tM_X8_51 (rcv_X5 hM) (by decide) dX8_feasts_28 rfl rfl (Nat.le_of_ble_eq_true rfl) (fun σ4 e4 => ?_)
    replace e4 := e4.symm
    subst e4
    refine x_aload_n (pc' := 32) hE dX8_feasts_31 rfl rfl ?_
    refine x_dup (pc' := 33) hE dX8_feasts_32 rfl rfl ?_
    refine g_X8_7 (pc' := 36) hE hM tF_X8_66 dX8_feasts_33 rfl ?_
    rw [up_n (by omega), hf2 0 0 0 7 (by omega), cR]
    refine x_iconst (pc' := 37) hE dX8_feasts_36 rfl ?_
    refine x_iadd (pc' := 38) hE dX8_feasts_37 rfl ?_
    refine p_X8_7 (pc' := 41) hE hM tF_X8_66 dX8_feasts_38 rfl ?_
    refine x_aload_n (pc' := 42) hE dX8_feasts_41 rfl rfl ?_
    refine g_X8_1 (pc' := 45) hE hM tF_X8_19 dX8_feasts_42 rfl ?_
    refine gN_X1_1 (pc' := 48) hE hM (fun _ h => nF_X8_69 h) dX8_feasts_45 rfl ?_
    refine x_iret hE dX8_feasts_48 ?_
    refine ⟨ri ?_, ?_⟩
    · rw [up_n (by omega), up_n (by omega), hN2, aFeasts, if_pos hwh]
    · rw [sFeasts, if_pos hwh]
      exact RC_feasts hC hN2 hm2 hf2
  · try simp only [decide_eq_true_eq, decide_eq_false_iff_not] at h2
    refine x_bipush (pc' := 12) hE dX8_feasts_10 rfl (by decide +kernel) ?_
    refine x_iret hE dX8_feasts_12 ?_
    have hwn : ¬ whl (τ 10 0 0) (τ 0 0 0 18) = true := by simp [h2]
    exact ⟨ri (by rw [aFeasts, if_neg hwn]), by rw [sFeasts, if_neg hwn]; exact hC⟩
set_option maxHeartbeats 4000000 in
set_option maxRecDepth 10000 in
theorem c_X8_loss (l : Launch) (G : GC) (σ : St) (τ : St) (B : Int) (hI : IM B τ) (hC : RC σ τ) (hB : B ≤ 800000) (d : Int) (hd : inR d) : Ct l (YC G) yX8_loss (.code yX8_loss cX8_loss 2 (some .int)) 5 [.ref (aC G 0 0 0), .int (iN d)] σ (fun v σ' => v = some (.int (iN (aLoss τ d))) ∧ RC σ' τ) := by
  refine Ct_of (own := RX8) [some (.ref (aC G 0 0 0)), some (.int (iN d))] rfl rfl (Nat.le_of_ble_eq_true rfl) rfl ?_
  intro E hE hM hl hR
  obtain ⟨hW, hF, hrd, hak, hpl, hpg, hwt, hfr, hsn, hso, hce, hkp, hkk⟩ := id hI
  obtain ⟨hnp, hnf, hday, hpp, hff, hcc⟩ := WT_of hW
  obtain ⟨cP, ⟨cN, hRF⟩, hRW, cS, cI, cK, cR, cA⟩ := id hC
  obtain ⟨r1, r2, r3, r4, r5, r6, r7⟩ := id hRW
  obtain ⟨p1, p2⟩ := id cP
  have w00 : wv τ 0 0 = τ 0 0 0 5 := rfl
  have w01 : wv τ 0 1 = τ 0 0 0 9 := rfl
  have w02 : wv τ 0 2 = τ 0 0 0 3 := rfl
  obtain ⟨d1, d2⟩ := hd
  refine x_iload_n (pc' := 1) hE dX8_loss_0 rfl rfl ?_
  refine x_iflt (tgt := 10) (pc' := 4) hE dX8_loss_1 (by decide) rfl ⟨by omega, by omega⟩ (fun h1 => ?_) (fun h1 => ?_)
  · refine x_bipush (pc' := 12) hE dX8_loss_10 rfl (by decide +kernel) ?_
    refine x_iret hE dX8_loss_12 ?_
    refine ⟨ri ?_, ?_⟩
    · first | (exfalso; omega) | skip
      first | ((show eatN (dN (fv τ) (wv τ) d.toNat) - eatN (wv τ) = _); unfold aLoss; rw [if_pos (by omega)]) | skip
      all_goals unfold aLoss
      all_goals repeat' split
      all_goals first | rfl | omega | (exfalso; omega)
    · first | (exfalso; omega) | skip
      all_goals first | exact hC | (exfalso; omega) | (exact hC.try hfa)
  · refine x_iload_n (pc' := 5) hE dX8_loss_4 rfl rfl ?_
    refine x_bipush (pc' := 7) hE dX8_loss_5 rfl (by decide +kernel) ?_
    refine x_icmple (tgt := 13) (pc' := 10) hE dX8_loss_7 (by decide) rfl ⟨by omega, by omega⟩ ⟨by omega, by omega⟩ (fun h2 => ?_) (fun h2 => ?_)
    · refine x_aload_n (pc' := 14) hE dX8_loss_13 rfl rfl ?_
      refine x_iload_n (pc' := 15) hE dX8_loss_14 rfl rfl ?_
      refine x_cV1 (pc' := 18) hE hM (okC G) hl hR (c_X8_lossIn l G _ _ _ hRW hW (by omega) _ hRF _ (by omega) (by omega)) kX8_lossIn tM_X8_177 (rcv_X8 hM) (by decide) dX8_loss_15 rfl rfl (Nat.le_of_ble_eq_true rfl) (fun σ3 e3 => ?_)
      have hfa := e3
      refine x_iret hE dX8_loss_18 ?_
      refine ⟨ri ?_, ?_⟩
      · first | (exfalso; omega) | skip
        first | ((show eatN (dN (fv τ) (wv τ) d.toNat) - eatN (wv τ) = _); unfold aLoss; rw [if_pos (by omega)]) | skip
        all_goals unfold aLoss
        all_goals repeat' split
        all_goals first | rfl | omega | (exfalso; omega)
      · first | (exfalso; omega) | skip
        all_goals first | exact hC | (exfalso; omega) | (exact hC.try hfa)
    · refine x_bipush (pc' := 12) hE dX8_loss_10 rfl (by decide +kernel) ?_
      refine x_iret hE dX8_loss_12 ?_
      refine ⟨ri ?_, ?_⟩
      · first | (exfalso; omega) | skip
        first | ((show eatN (dN (fv τ) (wv τ) d.toNat) - eatN (wv τ) = _); unfold aLoss; rw [if_pos (by omega)]) | skip
        all_goals unfold aLoss
        all_goals repeat' split
        all_goals first | rfl | omega | (exfalso; omega)
      · first | (exfalso; omega) | skip
        all_goals first | exact hC | (exfalso; omega) | (exact hC.try hfa)
set_option maxHeartbeats 4000000 in
set_option maxRecDepth 10000 in
theorem c_X8_falls (l : Launch) (G : GC) (σ : St) (τ : St) (B : Int) (hI : IM B τ) (hC : RC σ τ) (hB : B ≤ 800000) (f : Int) (hf : inR f) : Ct l (YC G) yX8_falls (.code yX8_falls cX8_falls 2 (some .int)) 5 [.ref (aC G 0 0 0), .int (iN f)] σ (fun v σ' => v = some (.int (iN (aFalls τ f))) ∧ RC σ' τ) := by
  refine Ct_of (own := RX8) [some (.ref (aC G 0 0 0)), some (.int (iN f))] rfl rfl (Nat.le_of_ble_eq_true rfl) rfl ?_
  intro E hE hM hl hR
  obtain ⟨hW, hF, hrd, hak, hpl, hpg, hwt, hfr, hsn, hso, hce, hkp, hkk⟩ := id hI
  obtain ⟨hnp, hnf, hday, hpp, hff, hcc⟩ := WT_of hW
  obtain ⟨cP, ⟨cN, hRF⟩, hRW, cS, cI, cK, cR, cA⟩ := id hC
  obtain ⟨r1, r2, r3, r4, r5, r6, r7⟩ := id hRW
  obtain ⟨p1, p2⟩ := id cP
  have w00 : wv τ 0 0 = τ 0 0 0 5 := rfl
  have w01 : wv τ 0 1 = τ 0 0 0 9 := rfl
  have w02 : wv τ 0 2 = τ 0 0 0 3 := rfl
  obtain ⟨f1, f2⟩ := hf
  have e6 : wv τ 6 f = τ 8 0 0 f := rfl
  refine x_aload_n (pc' := 1) hE dX8_falls_0 rfl rfl ?_
  refine g_X8_2 (pc' := 4) hE hM tF_X8_26 dX8_falls_1 rfl ?_
  refine x_iload_n (pc' := 5) hE dX8_falls_4 rfl rfl ?_
  refine x_cV1 (pc' := 8) hE hM (okC G) hl hR (c_X7_isGrazing l G _ _ (by omega) _ _ hRW hW (by omega) _ ⟨by omega, by omega⟩) kX7_isGrazing tM_X8_170 (rcv_X7 (by omega) hM) (by decide) dX8_falls_5 rfl rfl (Nat.le_of_ble_eq_true rfl) (fun σ1 e1 => ?_)
  replace e1 := e1.symm
  subst e1
  refine x_ifneB (tgt := 14) (pc' := 11) hE dX8_falls_8 (by decide) rfl (fun h2 => ?_) (fun h2 => ?_)
  · try simp only [decide_eq_true_eq, decide_eq_false_iff_not] at h2
    refine x_aload_n (pc' := 15) hE dX8_falls_14 rfl rfl ?_
    refine x_cV0 (pc' := 18) hE hM (okC G) hl hR (c_X8_trialFromNow l G _ _ _ hRW hW) kX8_trialFromNow tM_X8_180 (rcv_X8 hM) (by decide) dX8_falls_15 rfl rfl (Nat.le_of_ble_eq_true rfl) (fun σ3 e3 => ?_)
    obtain ⟨hfa0, hRt⟩ := e3
    have hRF2 := hfa0.rf hRF
    generalize σ3 = T at *
    refine x_aload_n (pc' := 19) hE dX8_falls_18 rfl rfl ?_
    refine g_X8_4 (pc' := 22) hE hM tF_X8_33 dX8_falls_19 rfl ?_
    refine x_iload_n (pc' := 23) hE dX8_falls_22 rfl rfl ?_
    refine x_bipush (pc' := 25) hE dX8_falls_23 rfl (by decide +kernel) ?_
    refine x_aload_n (pc' := 26) hE dX8_falls_25 rfl rfl ?_
    refine g_X8_1 (pc' := 29) hE hM tF_X8_19 dX8_falls_26 rfl ?_
    refine x_cV1 (pc' := 32) hE hM (okC G) hl hR (c_X7_daysUntilEaten l G _ _ (by omega) _ _ hRt hW (by omega) _ hRF2 _ _ (by omega) (by omega) (by omega) (by omega)) kX7_daysUntilEaten tM_X8_183 (rcv_X7 (by omega) hM) (by decide) dX8_falls_29 rfl rfl (Nat.le_of_ble_eq_true rfl) (fun σ4 e4 => ?_)
    have hfa := hfa0.trans e4.fa
    refine x_iret hE dX8_falls_32 ?_
    refine ⟨ri ?_, ?_⟩
    · first | (exfalso; omega) | skip
      first | ((show fallK (fv τ) (wv τ) f 60 1 = _); unfold aFalls; rw [if_neg (by omega)]) | skip
      all_goals unfold aFalls
      all_goals repeat' split
      all_goals first | rfl | omega | (exfalso; omega)
    · first | (exfalso; omega) | skip
      all_goals first | exact hC | (exfalso; omega) | (exact hC.try hfa)
  · try simp only [decide_eq_true_eq, decide_eq_false_iff_not] at h2
    refine x_bipush (pc' := 13) hE dX8_falls_11 rfl (by decide +kernel) ?_
    refine x_iret hE dX8_falls_13 ?_
    refine ⟨ri ?_, ?_⟩
    · first | (exfalso; omega) | skip
      first | ((show fallK (fv τ) (wv τ) f 60 1 = _); unfold aFalls; rw [if_neg (by omega)]) | skip
      all_goals unfold aFalls
      all_goals repeat' split
      all_goals first | rfl | omega | (exfalso; omega)
    · first | (exfalso; omega) | skip
      all_goals first | exact hC | (exfalso; omega) | (exact hC.try hfa)
set_option maxHeartbeats 4000000 in
set_option maxRecDepth 10000 in
theorem c_X8_watch (l : Launch) (G : GC) (σ : St) (τ : St) (B : Int) (hI : IM B τ) (hC : RC σ τ) (hB : B ≤ 800000) (p : Int) (hp : inR p) : Ct l (YC G) yX8_watch (.code yX8_watch cX8_watch 3 (some .int)) 1 [.ref (aC G 0 0 0), .int (iN p)] σ (fun v σ' => v = some (.int (iN (aWatch τ p))) ∧ RC σ' (sWatch τ p)) := by
  refine Ct_of (own := RX8) [some (.ref (aC G 0 0 0)), some (.int (iN p)), none] rfl rfl (Nat.le_of_ble_eq_true rfl) rfl ?_
  intro E hE hM hl hR
  obtain ⟨hW, hF, hrd, hak, hpl, hpg, hwt, hfr, hsn, hso, hce, hkp, hkk⟩ := id hI
  obtain ⟨hnp, hnf, hday, hpp, hff, hcc⟩ := WT_of hW
  obtain ⟨cP, ⟨cN, hRF⟩, hRW, cS, cI, cK, cR, cA⟩ := id hC
  obtain ⟨r1, r2, r3, r4, r5, r6, r7⟩ := id hRW
  obtain ⟨p1, p2⟩ := id cP
  have w00 : wv τ 0 0 = τ 0 0 0 5 := rfl
  have w01 : wv τ 0 1 = τ 0 0 0 9 := rfl
  have w02 : wv τ 0 2 = τ 0 0 0 3 := rfl
  obtain ⟨p1, p2⟩ := hp
  obtain ⟨c1, c2, c3, c4⟩ := id cS
  refine x_aload_n (pc' := 1) hE dX8_watch_0 rfl rfl ?_
  refine g_X8_2 (pc' := 4) hE hM tF_X8_26 dX8_watch_1 rfl ?_
  refine x_iload_n (pc' := 5) hE dX8_watch_4 rfl rfl ?_
  refine x_cV1 (pc' := 8) hE hM (okC G) hl hR (c_X7_hasPack l G _ _ (by omega) _ _ (by assumption) (by assumption) (by omega) _ ⟨by omega, by omega⟩) kX7_hasPack tM_X8_107 (rcv_X7 (by omega) hM) (by decide) dX8_watch_5 rfl rfl (Nat.le_of_ble_eq_true rfl) (fun σ1 e1 => ?_)
  replace e1 := e1.symm
  subst e1
  refine x_ifneB (tgt := 14) (pc' := 11) hE dX8_watch_8 (by decide) rfl (fun h2 => ?_) (fun h2 => ?_)
  · try simp only [decide_eq_true_eq, decide_eq_false_iff_not] at h2
    refine x_aload_n (pc' := 15) hE dX8_watch_14 rfl rfl ?_
    refine g_X8_2 (pc' := 18) hE hM tF_X8_26 dX8_watch_15 rfl ?_
    refine gN_X7_3 (pc' := 21) (by omega) hE hM (fun _ h => nF_X8_201 h) dX8_watch_18 rfl ?_
    refine gN_X6_2 (pc' := 24) (by omega) hE hM (fun _ h => nF_X8_205 h) dX8_watch_21 rfl ?_
    refine x_istore_n (pc' := 25) hE dX8_watch_24 rfl (by decide) rfl rfl ?_
    dsimp only [List.set]
    refine x_aload_n (pc' := 26) hE dX8_watch_25 rfl rfl ?_
    refine g_X8_2 (pc' := 29) hE hM tF_X8_26 dX8_watch_26 rfl ?_
    refine gN_X7_3 (pc' := 32) (by omega) hE hM (fun _ h => nF_X8_201 h) dX8_watch_29 rfl ?_
    refine x_iload_n (pc' := 33) hE dX8_watch_32 rfl rfl ?_
    refine x_aload_n (pc' := 34) hE dX8_watch_33 rfl rfl ?_
    refine g_X8_2 (pc' := 37) hE hM tF_X8_26 dX8_watch_34 rfl ?_
    refine gN_X7_6 (pc' := 40) (by omega) hE hM (fun _ h => nF_X8_210 h) dX8_watch_37 rfl ?_
    rw [r3, w02]
    refine x_cV0 (pc' := 43) hE hM (okC G) hl hR (c_X6_beginWith l G _ _ (by omega) _ _) kX6_beginWith tM_X8_213 (rcv_X6 (by omega) hM) (by decide) dX8_watch_40 rfl rfl (Nat.le_of_ble_eq_true rfl) (fun σ3 e3 => ?_)
    replace e3 := e3.symm
    subst e3
    refine x_iload_n (pc' := 44) hE dX8_watch_43 rfl rfl ?_
    refine x_iret hE dX8_watch_44 ?_
    refine ⟨ri ?_, ?_⟩
    · first | (exfalso; omega) | skip
      all_goals unfold aWatch
      all_goals repeat' split
      all_goals first | rfl | omega | (exfalso; omega)
    · first | (exfalso; omega) | skip
      all_goals unfold sWatch
      all_goals repeat' split
      all_goals first | exact hC | (exfalso; omega) | (exact RC_watch hC)
  · try simp only [decide_eq_true_eq, decide_eq_false_iff_not] at h2
    refine x_bipush (pc' := 13) hE dX8_watch_11 rfl (by decide +kernel) ?_
    refine x_iret hE dX8_watch_13 ?_
    refine ⟨ri ?_, ?_⟩
    · first | (exfalso; omega) | skip
      all_goals unfold aWatch
      all_goals repeat' split
      all_goals first | rfl | omega | (exfalso; omega)
    · first | (exfalso; omega) | skip
      all_goals unfold sWatch
      all_goals repeat' split
      all_goals first | exact hC | (exfalso; omega) | (exact RC_watch hC)
set_option maxHeartbeats 4000000 in
set_option maxRecDepth 10000 in
theorem c_X8_seen (l : Launch) (G : GC) (σ : St) (τ : St) (B : Int) (hI : IM B τ) (hC : RC σ τ) (hB : B ≤ 800000) (b : Bool) : Ct l (YC G) yX8_seen (.code yX8_seen cX8_seen 2 (some .int)) 1 [.ref (aC G 0 0 0), .int (bI b)] σ (fun v σ' => v = some (.int (iN (aSeen τ))) ∧ RC σ' (sSeen τ b)) := by
  refine Ct_of (own := RX8) [some (.ref (aC G 0 0 0)), some (.int (bI b))] rfl rfl (Nat.le_of_ble_eq_true rfl) rfl ?_
  intro E hE hM hl hR
  obtain ⟨hW, hF, hrd, hak, hpl, hpg, hwt, hfr, hsn, hso, hce, hkp, hkk⟩ := id hI
  obtain ⟨hnp, hnf, hday, hpp, hff, hcc⟩ := WT_of hW
  obtain ⟨cP, ⟨cN, hRF⟩, hRW, cS, cI, cK, cR, cA⟩ := id hC
  obtain ⟨r1, r2, r3, r4, r5, r6, r7⟩ := id hRW
  obtain ⟨p1, p2⟩ := id cP
  have w00 : wv τ 0 0 = τ 0 0 0 5 := rfl
  have w01 : wv τ 0 1 = τ 0 0 0 9 := rfl
  have w02 : wv τ 0 2 = τ 0 0 0 3 := rfl
  obtain ⟨c1, c2, c3, c4⟩ := id cS
  refine x_aload_n (pc' := 1) hE dX8_seen_0 rfl rfl ?_
  refine g_X8_2 (pc' := 4) hE hM tF_X8_26 dX8_seen_1 rfl ?_
  refine gN_X7_3 (pc' := 7) (by omega) hE hM (fun _ h => nF_X8_201 h) dX8_seen_4 rfl ?_
  refine x_cV1 (pc' := 10) hE hM (okC G) hl hR (c_X6_hasBegun l G _ _ (by omega) ⟨by omega, by omega⟩) kX6_hasBegun tM_X8_216 (rcv_X6 (by omega) hM) (by decide) dX8_seen_7 rfl rfl (Nat.le_of_ble_eq_true rfl) (fun σ1 e1 => ?_)
  replace e1 := e1.symm
  subst e1
  refine x_ifneB (tgt := 16) (pc' := 13) hE dX8_seen_10 (by decide) rfl (fun h2 => ?_) (fun h2 => ?_)
  · try simp only [decide_eq_true_eq, decide_eq_false_iff_not] at h2
    refine x_aload_n (pc' := 17) hE dX8_seen_16 rfl rfl ?_
    refine g_X8_2 (pc' := 20) hE hM tF_X8_26 dX8_seen_17 rfl ?_
    refine gN_X7_3 (pc' := 23) (by omega) hE hM (fun _ h => nF_X8_201 h) dX8_seen_20 rfl ?_
    refine gN_X6_2 (pc' := 26) (by omega) hE hM (fun _ h => nF_X8_205 h) dX8_seen_23 rfl ?_
    refine x_bipush (pc' := 28) hE dX8_seen_26 rfl (by decide +kernel) ?_
    refine x_icmplt (tgt := 34) (pc' := 31) hE dX8_seen_28 (by decide) rfl ⟨by omega, by omega⟩ ⟨by omega, by omega⟩ (fun h3 => ?_) (fun h3 => ?_)
    · refine x_aload_n (pc' := 35) hE dX8_seen_34 rfl rfl ?_
      refine g_X8_2 (pc' := 38) hE hM tF_X8_26 dX8_seen_35 rfl ?_
      refine gN_X7_3 (pc' := 41) (by omega) hE hM (fun _ h => nF_X8_201 h) dX8_seen_38 rfl ?_
      refine x_iload_n (pc' := 42) hE dX8_seen_41 rfl rfl ?_
      refine x_cV0 (pc' := 45) hE hM (okC G) hl hR (c_X6_put l G _ _ (by omega) _ c4 (by omega) (by omega) _) kX6_put tM_X8_219 (rcv_X6 (by omega) hM) (by decide) dX8_seen_42 rfl rfl (Nat.le_of_ble_eq_true rfl) (fun σ4 e4 => ?_)
      replace e4 := e4.symm
      subst e4
      refine x_aload_n (pc' := 46) hE dX8_seen_45 rfl rfl ?_
      refine g_X8_2 (pc' := 49) hE hM tF_X8_26 dX8_seen_46 rfl ?_
      refine gN_X7_3 (pc' := 52) (by omega) hE hM (fun _ h => nF_X8_201 h) dX8_seen_49 rfl ?_
      refine gN_X6_2 (pc' := 55) (by omega) hE hM (fun _ h => nF_X8_205 h) dX8_seen_52 rfl ?_
      rw [up_s]
      refine x_iret hE dX8_seen_55 ?_
      refine ⟨ri ?_, ?_⟩
      · unfold aSeen
        rw [if_neg (by omega), if_neg (by omega), c3]
      · unfold sSeen
        rw [if_neg (show ¬ (τ 0 0 0 13 = -1 ∨ τ 0 0 0 15 = 8) by omega), c3]
        cases b
        · exact RC_seenf (by omega) (by omega) hC
        · exact RC_seent (by omega) (by omega) hC
    · refine x_bipush (pc' := 33) hE dX8_seen_31 rfl (by decide +kernel) ?_
      refine x_iret hE dX8_seen_33 ?_
      refine ⟨ri ?_, ?_⟩
      · first | (exfalso; omega) | skip
        all_goals unfold aSeen
        all_goals repeat' split
        all_goals first | rfl | omega | (exfalso; omega)
      · first | (exfalso; omega) | skip
        all_goals unfold sSeen
        all_goals repeat' split
        all_goals first | exact hC | (exfalso; omega) | (assumption)
  · try simp only [decide_eq_true_eq, decide_eq_false_iff_not] at h2
    refine x_bipush (pc' := 15) hE dX8_seen_13 rfl (by decide +kernel) ?_
    refine x_iret hE dX8_seen_15 ?_
    refine ⟨ri ?_, ?_⟩
    · first | (exfalso; omega) | skip
      all_goals unfold aSeen
      all_goals repeat' split
      all_goals first | rfl | omega | (exfalso; omega)
    · first | (exfalso; omega) | skip
      all_goals unfold sSeen
      all_goals repeat' split
      all_goals first | exact hC | (exfalso; omega) | (assumption)
set_option maxHeartbeats 4000000 in
set_option maxRecDepth 10000 in
theorem c_X8_image (l : Launch) (G : GC) (σ : St) (τ : St) (B : Int) (hI : IM B τ) (hC : RC σ τ) (hB : B ≤ 800000) : Ct l (YC G) yX8_image (.code yX8_image cX8_image 1 (some .int)) 2 [.ref (aC G 0 0 0)] σ (fun v σ' => v = some (.int (iN (τ 0 0 0 3))) ∧ RC σ' (sImage τ)) := by
  refine Ct_of (own := RX8) [some (.ref (aC G 0 0 0))] rfl rfl (Nat.le_of_ble_eq_true rfl) rfl ?_
  intro E hE hM hl hR
  obtain ⟨hW, hF, hrd, hak, hpl, hpg, hwt, hfr, hsn, hso, hce, hkp, hkk⟩ := id hI
  obtain ⟨hnp, hnf, hday, hpp, hff, hcc⟩ := WT_of hW
  obtain ⟨cP, ⟨cN, hRF⟩, hRW, cS, cI, cK, cR, cA⟩ := id hC
  obtain ⟨r1, r2, r3, r4, r5, r6, r7⟩ := id hRW
  obtain ⟨p1, p2⟩ := id cP
  have w00 : wv τ 0 0 = τ 0 0 0 5 := rfl
  have w01 : wv τ 0 1 = τ 0 0 0 9 := rfl
  have w02 : wv τ 0 2 = τ 0 0 0 3 := rfl
  refine x_aload_n (pc' := 1) hE dX8_image_0 rfl rfl ?_
  refine g_X8_3 (pc' := 4) hE hM tF_X8_30 dX8_image_1 rfl ?_
  refine x_aload_n (pc' := 5) hE dX8_image_4 rfl rfl ?_
  refine g_X8_2 (pc' := 8) hE hM tF_X8_26 dX8_image_5 rfl ?_
  refine x_cV0 (pc' := 11) hE hM (okC G) hl hR (c_X7_copyFrom l G _ 1 0 (by omega) (by omega) (by omega) _ _ hRW hW) kX7_copyFrom tM_X8_241 (rcv_X7 (by omega) hM) (by decide) dX8_image_8 rfl rfl (Nat.le_of_ble_eq_true rfl) (fun σ1 e1 => ?_)
  obtain ⟨hfa, hRt, hst⟩ := e1
  generalize σ1 = S at *
  obtain ⟨t1, t2, t3, -⟩ := id hRt
  refine x_aload_n (pc' := 12) hE dX8_image_11 rfl rfl ?_
  refine x_iconst (pc' := 13) hE dX8_image_12 rfl ?_
  refine p_X8_6 (pc' := 16) hE hM tF_X8_245 (by omega) dX8_image_13 rfl ?_
  refine x_aload_n (pc' := 17) hE dX8_image_16 rfl rfl ?_
  refine g_X8_3 (pc' := 20) hE hM tF_X8_30 dX8_image_17 rfl ?_
  refine gN_X7_6 (pc' := 23) (by omega) hE hM (fun _ h => nF_X8_210 h) dX8_image_20 rfl ?_
  refine x_iret hE dX8_image_23 ?_
  refine ⟨ri ?_, RC_image hC hW hfa hRt hst⟩
  rw [up_n (by omega), t3, w02]
set_option maxHeartbeats 4000000 in
set_option maxRecDepth 10000 in
theorem c_X8_restore (l : Launch) (G : GC) (σ : St) (τ : St) (B : Int) (hI : IM B τ) (hC : RC σ τ) (hB : B ≤ 800000) : Ct l (YC G) yX8_restore (.code yX8_restore cX8_restore 1 (some .int)) 2 [.ref (aC G 0 0 0)] σ (fun v σ' => v = some (.int (iN (aRestore τ))) ∧ RC σ' (sRestore τ)) := by
  refine Ct_of (own := RX8) [some (.ref (aC G 0 0 0))] rfl rfl (Nat.le_of_ble_eq_true rfl) rfl ?_
  intro E hE hM hl hR
  obtain ⟨hW, hF, hrd, hak, hpl, hpg, hwt, hfr, hsn, hso, hce, hkp, hkk⟩ := id hI
  obtain ⟨hnp, hnf, hday, hpp, hff, hcc⟩ := WT_of hW
  obtain ⟨cP, ⟨cN, hRF⟩, hRW, cS, cI, cK, cR, cA⟩ := id hC
  obtain ⟨r1, r2, r3, r4, r5, r6, r7⟩ := id hRW
  obtain ⟨p1, p2⟩ := id cP
  have w00 : wv τ 0 0 = τ 0 0 0 5 := rfl
  have w01 : wv τ 0 1 = τ 0 0 0 9 := rfl
  have w02 : wv τ 0 2 = τ 0 0 0 3 := rfl
  refine x_aload_n (pc' := 1) hE dX8_restore_0 rfl rfl ?_
  refine g_X8_6 (pc' := 4) hE hM tF_X8_245 dX8_restore_1 rfl ?_
  refine x_ifne (tgt := 10) (pc' := 7) hE dX8_restore_4 (by decide) rfl ⟨by omega, by omega⟩ (fun h1 => ?_) (fun h1 => ?_)
  · have hk1 : τ 0 0 0 30 = 1 := by omega
    refine x_aload_n (pc' := 11) hE dX8_restore_10 rfl rfl ?_
    refine g_X8_2 (pc' := 14) hE hM tF_X8_26 dX8_restore_11 rfl ?_
    refine x_aload_n (pc' := 15) hE dX8_restore_14 rfl rfl ?_
    refine g_X8_3 (pc' := 18) hE hM tF_X8_30 dX8_restore_15 rfl ?_
    refine x_cV0 (pc' := 21) hE hM (okC G) hl hR (c_X7_copyFrom l G _ 0 1 (by omega) (by omega) (by omega) _ _ (cK hk1).1 (hkk hk1).1) kX7_copyFrom tM_X8_241 (rcv_X7 (by omega) hM) (by decide) dX8_restore_18 rfl rfl (Nat.le_of_ble_eq_true rfl) (fun σ2 e2 => ?_)
    obtain ⟨hfa, hRt, hst⟩ := e2
    generalize σ2 = S at *
    obtain ⟨t1, t2, t3, -⟩ := id hRt
    refine x_aload_n (pc' := 22) hE dX8_restore_21 rfl rfl ?_
    refine g_X8_2 (pc' := 25) hE hM tF_X8_26 dX8_restore_22 rfl ?_
    refine gN_X7_6 (pc' := 28) (by omega) hE hM (fun _ h => nF_X8_210 h) dX8_restore_25 rfl ?_
    refine x_iret hE dX8_restore_28 ?_
    refine ⟨ri ?_, ?_⟩
    · rw [t3, aRestore, if_neg (by omega)]
      rfl
    · rw [sRestore_e (by omega)]
      exact RC_restore hC hk1 (hkk hk1).1 hfa hRt hst
  · refine x_bipush (pc' := 9) hE dX8_restore_7 rfl (by decide +kernel) ?_
    refine x_iret hE dX8_restore_9 ?_
    have hk0 : τ 0 0 0 30 = 0 := by omega
    exact ⟨ri (by rw [aRestore, if_pos hk0]), by rw [sRestore, if_pos hk0]; exact hC⟩
set_option maxHeartbeats 4000000 in
set_option maxRecDepth 10000 in
theorem c_X8_fits (l : Launch) (G : GC) (σ : St) (τ : St) (B : Int) (hI : IM B τ) (hC : RC σ τ) (hB : B ≤ 800000) (w : Int) (hw : inR w) : Ct l (YC G) yX8_fits (.code yX8_fits cX8_fits 3 (some .int)) 4 [.ref (aC G 0 0 0), .int (iN w)] σ (fun v σ' => v = some (.int (iN (aFits τ w))) ∧ RC σ' τ) := by
  refine Ct_of (own := RX8) [some (.ref (aC G 0 0 0)), some (.int (iN w)), none] rfl rfl (Nat.le_of_ble_eq_true rfl) rfl ?_
  intro E hE hM hl hR
  obtain ⟨hW, hF, hrd, hak, hpl, hpg, hwt, hfr, hsn, hso, hce, hkp, hkk⟩ := id hI
  obtain ⟨hnp, hnf, hday, hpp, hff, hcc⟩ := WT_of hW
  obtain ⟨cP, ⟨cN, hRF⟩, hRW, cS, cI, cK, cR, cA⟩ := id hC
  obtain ⟨r1, r2, r3, r4, r5, r6, r7⟩ := id hRW
  obtain ⟨p1, p2⟩ := id cP
  have w00 : wv τ 0 0 = τ 0 0 0 5 := rfl
  have w01 : wv τ 0 1 = τ 0 0 0 9 := rfl
  have w02 : wv τ 0 2 = τ 0 0 0 3 := rfl
  obtain ⟨w1, w2⟩ := hw
  obtain ⟨c1, c2, c3, c4⟩ := id cS
  refine x_iload_n (pc' := 1) hE dX8_fits_0 rfl rfl ?_
  refine x_iflt (tgt := 9) (pc' := 4) hE dX8_fits_1 (by decide) rfl ⟨by omega, by omega⟩ (fun h1 => ?_) (fun h1 => ?_)
  · refine x_bipush (pc' := 11) hE dX8_fits_9 rfl (by decide +kernel) ?_
    refine x_iret hE dX8_fits_11 ?_
    refine ⟨ri ?_, ?_⟩
    · first | (exfalso; omega) | skip
      all_goals unfold aFits
      all_goals repeat' split
      all_goals first | rfl | omega | (exfalso; omega)
    · first | (exfalso; omega) | skip
      all_goals first | exact hC | (exfalso; omega) | (assumption)
  · refine x_iload_n (pc' := 5) hE dX8_fits_4 rfl rfl ?_
    refine x_iconst (pc' := 6) hE dX8_fits_5 rfl ?_
    refine x_icmple (tgt := 12) (pc' := 9) hE dX8_fits_6 (by decide) rfl ⟨by omega, by omega⟩ ⟨by omega, by omega⟩ (fun h2 => ?_) (fun h2 => ?_)
    · refine x_aload_n (pc' := 13) hE dX8_fits_12 rfl rfl ?_
      refine g_X8_2 (pc' := 16) hE hM tF_X8_26 dX8_fits_13 rfl ?_
      refine gN_X7_3 (pc' := 19) (by omega) hE hM (fun _ h => nF_X8_201 h) dX8_fits_16 rfl ?_
      refine x_cV1 (pc' := 22) hE hM (okC G) hl hR (c_X6_hasBegun l G _ _ (by omega) ⟨by omega, by omega⟩) kX6_hasBegun tM_X8_216 (rcv_X6 (by omega) hM) (by decide) dX8_fits_19 rfl rfl (Nat.le_of_ble_eq_true rfl) (fun σ3 e3 => ?_)
      replace e3 := e3.symm
      subst e3
      refine x_ifeqB (tgt := 45) (pc' := 25) hE dX8_fits_22 (by decide) rfl (fun h4 => ?_) (fun h4 => ?_)
      · try simp only [decide_eq_true_eq, decide_eq_false_iff_not] at h4
        refine x_bipush (pc' := 47) hE dX8_fits_45 rfl (by decide +kernel) ?_
        refine x_iret hE dX8_fits_47 ?_
        refine ⟨ri ?_, ?_⟩
        · first | (exfalso; omega) | skip
          all_goals unfold aFits
          all_goals repeat' split
          all_goals first | rfl | omega | (exfalso; omega)
        · first | (exfalso; omega) | skip
          all_goals first | exact hC | (exfalso; omega) | (assumption)
      · try simp only [decide_eq_true_eq, decide_eq_false_iff_not] at h4
        refine x_aload_n (pc' := 26) hE dX8_fits_25 rfl rfl ?_
        refine g_X8_2 (pc' := 29) hE hM tF_X8_26 dX8_fits_26 rfl ?_
        refine x_aload_n (pc' := 30) hE dX8_fits_29 rfl rfl ?_
        refine g_X8_2 (pc' := 33) hE hM tF_X8_26 dX8_fits_30 rfl ?_
        refine gN_X7_3 (pc' := 36) (by omega) hE hM (fun _ h => nF_X8_201 h) dX8_fits_33 rfl ?_
        refine gN_X6_0 (pc' := 39) (by omega) hE hM (fun _ h => nF_X8_222 h) dX8_fits_36 rfl ?_
        refine x_cV1 (pc' := 42) hE hM (okC G) hl hR (c_X7_hasPack l G _ _ (by omega) _ _ (by assumption) (by assumption) (by omega) _ ⟨by omega, by omega⟩) kX7_hasPack tM_X8_107 (rcv_X7 (by omega) hM) (by decide) dX8_fits_39 rfl rfl (Nat.le_of_ble_eq_true rfl) (fun σ5 e5 => ?_)
        replace e5 := e5.symm
        subst e5
        refine x_ifneB (tgt := 48) (pc' := 45) hE dX8_fits_42 (by decide) rfl (fun h6 => ?_) (fun h6 => ?_)
        · try simp only [decide_eq_true_eq, decide_eq_false_iff_not] at h6
          refine x_aload_n (pc' := 49) hE dX8_fits_48 rfl rfl ?_
          refine g_X8_2 (pc' := 52) hE hM tF_X8_26 dX8_fits_49 rfl ?_
          refine gN_X7_0 (pc' := 55) (by omega) hE hM (fun _ h => nF_X8_93 h) dX8_fits_52 rfl ?_
          refine x_aload_n (pc' := 56) hE dX8_fits_55 rfl rfl ?_
          refine g_X8_2 (pc' := 59) hE hM tF_X8_26 dX8_fits_56 rfl ?_
          refine gN_X7_3 (pc' := 62) (by omega) hE hM (fun _ h => nF_X8_201 h) dX8_fits_59 rfl ?_
          refine gN_X6_0 (pc' := 65) (by omega) hE hM (fun _ h => nF_X8_222 h) dX8_fits_62 rfl ?_
          rw [c1]
          refine aC_7 (pc' := 66) (by omega) hE hM (by omega) (by omega) dX8_fits_65 rfl ?_
          refine x_astore_n (pc' := 67) hE dX8_fits_66 rfl (by decide) rfl rfl ?_
          dsimp only [List.set]
          refine x_iload_n (pc' := 68) hE dX8_fits_67 rfl rfl ?_
          refine x_ifne (tgt := 79) (pc' := 71) hE dX8_fits_68 (by decide) rfl ⟨by omega, by omega⟩ (fun h7 => ?_) (fun h7 => ?_)
          · refine x_aload_n (pc' := 80) hE dX8_fits_79 rfl rfl ?_
            refine x_aload_n (pc' := 81) hE dX8_fits_80 rfl rfl ?_
            refine x_cV1 (pc' := 84) hE hM (okC G) hl hR (c_X8_fittingKinds l G _ _ _ hRW hW (by omega) _ hRF _ _ _ _ cS (by omega) (by omega) _ (by omega) (by omega)) kX8_fittingKinds tM_X8_228 (rcv_X8 hM) (by decide) dX8_fits_81 rfl rfl (Nat.le_of_ble_eq_true rfl) (fun σ8 e8 => ?_)
            replace e8 := e8.symm
            subst e8
            refine x_iret hE dX8_fits_84 ?_
            refine ⟨ri ?_, hC⟩
            unfold aFits
            rw [if_neg (by omega), if_neg (by omega)]
            have e : w = 1 := by omega
            subst e
            rfl
          · refine x_aload_n (pc' := 72) hE dX8_fits_71 rfl rfl ?_
            refine x_aload_n (pc' := 73) hE dX8_fits_72 rfl rfl ?_
            refine x_cV1 (pc' := 76) hE hM (okC G) hl hR (c_X8_fittingLags l G _ _ _ hRW hW (by omega) _ hRF _ _ _ _ cS (by omega) (by omega) _ (by omega) (by omega)) kX8_fittingLags tM_X8_225 (rcv_X8 hM) (by decide) dX8_fits_73 rfl rfl (Nat.le_of_ble_eq_true rfl) (fun σ9 e9 => ?_)
            replace e9 := e9.symm
            subst e9
            refine x_goto (tgt := 84) hE dX8_fits_76 (by decide) ?_
            refine x_iret hE dX8_fits_84 ?_
            refine ⟨ri ?_, hC⟩
            unfold aFits
            rw [if_neg (by omega), if_neg (by omega)]
            have e : w = 0 := by omega
            subst e
            rfl
        · try simp only [decide_eq_true_eq, decide_eq_false_iff_not] at h6
          refine x_bipush (pc' := 47) hE dX8_fits_45 rfl (by decide +kernel) ?_
          refine x_iret hE dX8_fits_47 ?_
          refine ⟨ri ?_, ?_⟩
          · first | (exfalso; omega) | skip
            all_goals unfold aFits
            all_goals repeat' split
            all_goals first | rfl | omega | (exfalso; omega)
          · first | (exfalso; omega) | skip
            all_goals first | exact hC | (exfalso; omega) | (assumption)
    · refine x_bipush (pc' := 11) hE dX8_fits_9 rfl (by decide +kernel) ?_
      refine x_iret hE dX8_fits_11 ?_
      refine ⟨ri ?_, ?_⟩
      · first | (exfalso; omega) | skip
        all_goals unfold aFits
        all_goals repeat' split
        all_goals first | rfl | omega | (exfalso; omega)
      · first | (exfalso; omega) | skip
        all_goals first | exact hC | (exfalso; omega) | (assumption)
set_option maxHeartbeats 4000000 in
set_option maxRecDepth 10000 in
theorem c_X8_nail (l : Launch) (G : GC) (σ : St) (τ : St) (B : Int) (hI : IM B τ) (hC : RC σ τ) (hB : B ≤ 800000) (p : Int) (hp : inR p) (w : Int) (hw : inR w) : Ct l (YC G) yX8_nail (.code yX8_nail cX8_nail 7 (some .int)) 3 [.ref (aC G 0 0 0), .int (iN p), .int (iN w)] σ (fun v σ' => v = some (.int (iN (aNail τ p w))) ∧ RC σ' τ) := by
  refine Ct_of (own := RX8) [some (.ref (aC G 0 0 0)), some (.int (iN p)), some (.int (iN w)), none, none, none, none] rfl rfl (Nat.le_of_ble_eq_true rfl) rfl ?_
  intro E hE hM hl hR
  obtain ⟨hW, hF, hrd, hak, hpl, hpg, hwt, hfr, hsn, hso, hce, hkp, hkk⟩ := id hI
  obtain ⟨hnp, hnf, hday, hpp, hff, hcc⟩ := WT_of hW
  obtain ⟨cP, ⟨cN, hRF⟩, hRW, cS, cI, cK, cR, cA⟩ := id hC
  obtain ⟨r1, r2, r3, r4, r5, r6, r7⟩ := id hRW
  obtain ⟨p1, p2⟩ := id cP
  have w00 : wv τ 0 0 = τ 0 0 0 5 := rfl
  have w01 : wv τ 0 1 = τ 0 0 0 9 := rfl
  have w02 : wv τ 0 2 = τ 0 0 0 3 := rfl
  obtain ⟨p1, p2⟩ := hp
  obtain ⟨w1, w2⟩ := hw
  have loop : ∀ (n : Nat) (k : Int), (0 ≤ p ∧ p < τ 0 0 0 5) → (0 ≤ w ∧ w ≤ 1) → 0 ≤ k → k ≤ 30 → 30 - k = n → VV E 7 (AS (YC G)) (Qm (YC G) (fun v σ' => v = some (.int (iN (aNail τ p w))) ∧ RC σ' τ) E) (Rh (YC G) (σ)) 34 [some (.ref (aC G 0 0 0)), some (.int (iN p)), some (.int (iN w)), some (.int (iN (nailA (nailG (fv τ) (τ 3 0 0 p) (τ 5 0 0 p) (τ 0 0 0 3)) (k).toNat).1)), some (.int (iN (nailA (nailG (fv τ) (τ 3 0 0 p) (τ 5 0 0 p) (τ 0 0 0 3)) (k).toNat).2)), some (.int (iN (k))), none] [] := by
    intro n
    induction n using Nat.strongRecOn with
    | _ n ih =>
    intro k hp0 hw0 g0 g1 g2
    have hb := nailA_bd (g := (nailG (fv τ) (τ 3 0 0 p) (τ 5 0 0 p) (τ 0 0 0 3))) (fun v => nailG_bd _ _ _ _ v) k.toNat
    have hg := nailG_bd (fv τ) (τ 3 0 0 p) (τ 5 0 0 p) (τ 0 0 0 3) k
    have q3 : wv τ 1 p = τ 3 0 0 p := rfl
    have q5 : wv τ 3 p = τ 5 0 0 p := rfl
    refine x_iload (pc' := 36) hE dX8_nail_34 rfl rfl ?_
    refine x_bipush (pc' := 38) hE dX8_nail_36 rfl (by decide +kernel) ?_
    refine x_icmpge (tgt := 78) (pc' := 41) hE dX8_nail_38 (by decide) rfl ⟨by omega, by omega⟩ ⟨by omega, by omega⟩ (fun h1 => ?_) (fun h1 => ?_)
    · refine x_iload_n (pc' := 79) hE dX8_nail_78 rfl rfl ?_
      refine x_iconst (pc' := 80) hE dX8_nail_79 rfl ?_
      refine x_icmpne (tgt := 85) (pc' := 83) hE dX8_nail_80 (by decide) rfl ⟨by omega, by omega⟩ ⟨by omega, by omega⟩ (fun h2 => ?_) (fun h2 => ?_)
      · refine x_iload_n (pc' := 86) hE dX8_nail_85 rfl rfl ?_
        refine x_ifne (tgt := 93) (pc' := 89) hE dX8_nail_86 (by decide) rfl ⟨by omega, by omega⟩ (fun h3 => ?_) (fun h3 => ?_)
        · refine x_iload (pc' := 95) hE dX8_nail_93 rfl rfl ?_
          refine x_iret hE dX8_nail_95 ?_
          refine ⟨ri ?_, hC⟩
          unfold aNail nailN
          rw [if_neg (show ¬ nPk τ p by omega), if_pos (show 0 ≤ w ∧ w ≤ 1 by omega)]
          generalize hk9 : k.toNat = kk at *
          have e : kk = 30 := by omega
          subst e
          repeat' split
          all_goals first | rfl | omega | (exfalso; omega)
        · refine x_iload_n (pc' := 90) hE dX8_nail_89 rfl rfl ?_
          refine x_goto (tgt := 95) hE dX8_nail_90 (by decide) ?_
          refine x_iret hE dX8_nail_95 ?_
          refine ⟨ri ?_, hC⟩
          unfold aNail nailN
          rw [if_neg (show ¬ nPk τ p by omega), if_pos (show 0 ≤ w ∧ w ≤ 1 by omega)]
          generalize hk9 : k.toNat = kk at *
          have e : kk = 30 := by omega
          subst e
          repeat' split
          all_goals first | rfl | omega | (exfalso; omega)
      · refine x_iconst (pc' := 84) hE dX8_nail_83 rfl ?_
        refine x_iret hE dX8_nail_84 ?_
        refine ⟨ri ?_, hC⟩
        unfold aNail nailN
        rw [if_neg (show ¬ nPk τ p by omega), if_pos (show 0 ≤ w ∧ w ≤ 1 by omega)]
        generalize hk9 : k.toNat = kk at *
        have e : kk = 30 := by omega
        subst e
        repeat' split
        all_goals first | rfl | omega | (exfalso; omega)
    · refine x_aload_n (pc' := 42) hE dX8_nail_41 rfl rfl ?_
      refine x_aload_n (pc' := 43) hE dX8_nail_42 rfl rfl ?_
      refine g_X8_2 (pc' := 46) hE hM tF_X8_26 dX8_nail_43 rfl ?_
      refine gN_X7_0 (pc' := 49) (by omega) hE hM (fun _ h => nF_X8_93 h) dX8_nail_46 rfl ?_
      refine x_iload_n (pc' := 50) hE dX8_nail_49 rfl rfl ?_
      refine aC_7 (pc' := 51) (by omega) hE hM (by omega) (by omega) dX8_nail_50 rfl ?_
      refine x_iload (pc' := 53) hE dX8_nail_51 rfl rfl ?_
      refine x_cV1 (pc' := 56) hE hM (okC G) hl hR (c_X8_fastsOnEnd l G _ _ _ hRW hW (by omega) _ hRF _ _ (by omega) (by omega) (by omega) (by omega)) kX8_fastsOnEnd tM_X8_197 (rcv_X8 hM) (by decide) dX8_nail_53 rfl rfl (Nat.le_of_ble_eq_true rfl) (fun σ4 e4 => ?_)
      replace e4 := e4.symm
      subst e4
      rw [q3, q5, w02]
      refine x_istore (pc' := 58) hE dX8_nail_56 rfl (by decide) rfl rfl ?_
      dsimp only [List.set]
      refine x_iload (pc' := 60) hE dX8_nail_58 rfl rfl ?_
      refine x_iload (pc' := 62) hE dX8_nail_60 rfl rfl ?_
      refine x_icmple (tgt := 72) (pc' := 65) hE dX8_nail_62 (by decide) rfl ⟨by omega, by omega⟩ ⟨by omega, by omega⟩ (fun h5 => ?_) (fun h5 => ?_)
      · refine x_iinc (pc' := 75) hE dX8_nail_72 rfl rfl (by decide) rfl rfl ?_
        dsimp only [List.set]
        refine x_goto (tgt := 34) hE dX8_nail_75 (by decide) ?_
        refine x_fg6 ?_
        refine x_lve (lv' := [some (.ref (aC G 0 0 0)), some (.int (iN p)), some (.int (iN w)), some (.int (iN (nailA (nailG (fv τ) (τ 3 0 0 p) (τ 5 0 0 p) (τ 0 0 0 3)) (k + 1).toNat).1)), some (.int (iN (nailA (nailG (fv τ) (τ 3 0 0 p) (τ 5 0 0 p) (τ 0 0 0 3)) (k + 1).toNat).2)), some (.int (iN (k + 1))), none]) ?_ (ih (n - 1) (by omega) (k + 1) hp0 hw0 (by omega) (by omega) (by omega))
        rw [nailA_s _ g0]
        split <;> first | rfl | (exfalso; omega)
      · refine x_iload (pc' := 67) hE dX8_nail_65 rfl rfl ?_
        refine x_istore (pc' := 69) hE dX8_nail_67 rfl (by decide) rfl rfl ?_
        dsimp only [List.set]
        refine x_iload (pc' := 71) hE dX8_nail_69 rfl rfl ?_
        refine x_istore_n (pc' := 72) hE dX8_nail_71 rfl (by decide) rfl rfl ?_
        dsimp only [List.set]
        refine x_iinc (pc' := 75) hE dX8_nail_72 rfl rfl (by decide) rfl rfl ?_
        dsimp only [List.set]
        refine x_goto (tgt := 34) hE dX8_nail_75 (by decide) ?_
        refine x_fg6 ?_
        refine x_lve (lv' := [some (.ref (aC G 0 0 0)), some (.int (iN p)), some (.int (iN w)), some (.int (iN (nailA (nailG (fv τ) (τ 3 0 0 p) (τ 5 0 0 p) (τ 0 0 0 3)) (k + 1).toNat).1)), some (.int (iN (nailA (nailG (fv τ) (τ 3 0 0 p) (τ 5 0 0 p) (τ 0 0 0 3)) (k + 1).toNat).2)), some (.int (iN (k + 1))), none]) ?_ (ih (n - 1) (by omega) (k + 1) hp0 hw0 (by omega) (by omega) (by omega))
        rw [nailA_s _ g0]
        split <;> first | rfl | (exfalso; omega)
  refine x_aload_n (pc' := 1) hE dX8_nail_0 rfl rfl ?_
  refine g_X8_2 (pc' := 4) hE hM tF_X8_26 dX8_nail_1 rfl ?_
  refine x_iload_n (pc' := 5) hE dX8_nail_4 rfl rfl ?_
  refine x_cV1 (pc' := 8) hE hM (okC G) hl hR (c_X7_hasPack l G _ _ (by omega) _ _ (by assumption) (by assumption) (by omega) _ ⟨by omega, by omega⟩) kX7_hasPack tM_X8_107 (rcv_X7 (by omega) hM) (by decide) dX8_nail_5 rfl rfl (Nat.le_of_ble_eq_true rfl) (fun σ6 e6 => ?_)
  replace e6 := e6.symm
  subst e6
  refine x_ifneB (tgt := 14) (pc' := 11) hE dX8_nail_8 (by decide) rfl (fun h7 => ?_) (fun h7 => ?_)
  · try simp only [decide_eq_true_eq, decide_eq_false_iff_not] at h7
    refine x_iload_n (pc' := 15) hE dX8_nail_14 rfl rfl ?_
    refine x_iflt (tgt := 23) (pc' := 18) hE dX8_nail_15 (by decide) rfl ⟨by omega, by omega⟩ (fun h8 => ?_) (fun h8 => ?_)
    · refine x_bipush (pc' := 25) hE dX8_nail_23 rfl (by decide +kernel) ?_
      refine x_iret hE dX8_nail_25 ?_
      refine ⟨ri ?_, ?_⟩
      · first | (exfalso; omega) | skip
        all_goals unfold aNail
        all_goals repeat' split
        all_goals first | rfl | omega | (exfalso; omega)
      · first | (exfalso; omega) | skip
        all_goals first | exact hC | (exfalso; omega) | (assumption)
    · refine x_iload_n (pc' := 19) hE dX8_nail_18 rfl rfl ?_
      refine x_iconst (pc' := 20) hE dX8_nail_19 rfl ?_
      refine x_icmple (tgt := 26) (pc' := 23) hE dX8_nail_20 (by decide) rfl ⟨by omega, by omega⟩ ⟨by omega, by omega⟩ (fun h9 => ?_) (fun h9 => ?_)
      · refine x_iconst (pc' := 27) hE dX8_nail_26 rfl ?_
        refine x_istore_n (pc' := 28) hE dX8_nail_27 rfl (by decide) rfl rfl ?_
        dsimp only [List.set]
        refine x_iconst (pc' := 29) hE dX8_nail_28 rfl ?_
        refine x_istore (pc' := 31) hE dX8_nail_29 rfl (by decide) rfl rfl ?_
        dsimp only [List.set]
        refine x_iconst (pc' := 32) hE dX8_nail_31 rfl ?_
        refine x_istore (pc' := 34) hE dX8_nail_32 rfl (by decide) rfl rfl ?_
        dsimp only [List.set]
        exact loop 30 0 (by omega) (by omega) (by omega) (by omega) (by omega)
      · refine x_bipush (pc' := 25) hE dX8_nail_23 rfl (by decide +kernel) ?_
        refine x_iret hE dX8_nail_25 ?_
        refine ⟨ri ?_, ?_⟩
        · first | (exfalso; omega) | skip
          all_goals unfold aNail
          all_goals repeat' split
          all_goals first | rfl | omega | (exfalso; omega)
        · first | (exfalso; omega) | skip
          all_goals first | exact hC | (exfalso; omega) | (assumption)
  · try simp only [decide_eq_true_eq, decide_eq_false_iff_not] at h7
    refine x_bipush (pc' := 13) hE dX8_nail_11 rfl (by decide +kernel) ?_
    refine x_iret hE dX8_nail_13 ?_
    refine ⟨ri ?_, ?_⟩
    · first | (exfalso; omega) | skip
      all_goals unfold aNail
      all_goals repeat' split
      all_goals first | rfl | omega | (exfalso; omega)
    · first | (exfalso; omega) | skip
      all_goals first | exact hC | (exfalso; omega) | (assumption)
set_option maxHeartbeats 4000000 in
set_option maxRecDepth 10000 in
theorem c_X8_count (l : Launch) (G : GC) (σ : St) (τ : St) (B : Int) (hI : IM B τ) (hC : RC σ τ) (hB : B ≤ 800000) (w : Int) (hw : inR w) : Ct l (YC G) yX8_count (.code yX8_count cX8_count 2 (some .int)) 2 [.ref (aC G 0 0 0), .int (iN w)] σ (fun v σ' => v = some (.int (iN (aCount τ w))) ∧ RC σ' τ) := by
  refine Ct_of (own := RX8) [some (.ref (aC G 0 0 0)), some (.int (iN w))] rfl rfl (Nat.le_of_ble_eq_true rfl) rfl ?_
  intro E hE hM hl hR
  obtain ⟨hW, hF, hrd, hak, hpl, hpg, hwt, hfr, hsn, hso, hce, hkp, hkk⟩ := id hI
  obtain ⟨hnp, hnf, hday, hpp, hff, hcc⟩ := WT_of hW
  obtain ⟨cP, ⟨cN, hRF⟩, hRW, cS, cI, cK, cR, cA⟩ := id hC
  obtain ⟨r1, r2, r3, r4, r5, r6, r7⟩ := id hRW
  obtain ⟨p1, p2⟩ := id cP
  have w00 : wv τ 0 0 = τ 0 0 0 5 := rfl
  have w01 : wv τ 0 1 = τ 0 0 0 9 := rfl
  have w02 : wv τ 0 2 = τ 0 0 0 3 := rfl
  obtain ⟨w1, w2⟩ := hw
  obtain ⟨c1, c2, c3, c4⟩ := id cS
  refine x_iload_n (pc' := 1) hE dX8_count_0 rfl rfl ?_
  rcases (show w = 0 ∨ w = 1 ∨ w = 2 ∨ w = 3 ∨ w = 4 ∨ w = 5 ∨ w = 6 ∨ w = 7 ∨ w = 8 ∨ w = 9 ∨ (w < 0 ∨ 9 < w) by omega) with h1 | h1 | h1 | h1 | h1 | h1 | h1 | h1 | h1 | h1 | h1
  · refine x_tabIn (tgt := 56) (off := 55) hE dX8_count_1 ⟨by omega, by omega⟩ (by omega) (by omega) (by rw [h1]; rfl) (by decide) ?_
    refine x_aload_n (pc' := 57) hE dX8_count_56 rfl rfl ?_
    refine g_X8_1 (pc' := 60) hE hM tF_X8_19 dX8_count_57 rfl ?_
    refine gN_X1_1 (pc' := 63) hE hM (fun _ h => nF_X8_69 h) dX8_count_60 rfl ?_
    refine x_iret hE dX8_count_63 ?_
    refine ⟨ri ?_, hC⟩
    unfold aCount cnN
    first | (subst_vars; simp; done) | (subst_vars; simp; omega) | (repeat rw [if_neg (by omega)])
  · refine x_tabIn (tgt := 64) (off := 63) hE dX8_count_1 ⟨by omega, by omega⟩ (by omega) (by omega) (by rw [h1]; rfl) (by decide) ?_
    refine x_aload_n (pc' := 65) hE dX8_count_64 rfl rfl ?_
    refine g_X8_2 (pc' := 68) hE hM tF_X8_26 dX8_count_65 rfl ?_
    refine gN_X7_4 (pc' := 71) (by omega) hE hM (fun _ h => nF_X8_90 h) dX8_count_68 rfl ?_
    refine x_iret hE dX8_count_71 ?_
    refine ⟨ri ?_, hC⟩
    unfold aCount cnN
    first | (subst_vars; simp; done) | (subst_vars; simp; omega) | (repeat rw [if_neg (by omega)])
  · refine x_tabIn (tgt := 72) (off := 71) hE dX8_count_1 ⟨by omega, by omega⟩ (by omega) (by omega) (by rw [h1]; rfl) (by decide) ?_
    refine x_aload_n (pc' := 73) hE dX8_count_72 rfl rfl ?_
    refine g_X8_2 (pc' := 76) hE hM tF_X8_26 dX8_count_73 rfl ?_
    refine gN_X7_5 (pc' := 79) (by omega) hE hM (fun _ h => nF_X8_145 h) dX8_count_76 rfl ?_
    refine x_iret hE dX8_count_79 ?_
    refine ⟨ri ?_, hC⟩
    unfold aCount cnN
    first | (subst_vars; simp; done) | (subst_vars; simp; omega) | (repeat rw [if_neg (by omega)])
  · refine x_tabIn (tgt := 80) (off := 79) hE dX8_count_1 ⟨by omega, by omega⟩ (by omega) (by omega) (by rw [h1]; rfl) (by decide) ?_
    refine x_aload_n (pc' := 81) hE dX8_count_80 rfl rfl ?_
    refine g_X8_2 (pc' := 84) hE hM tF_X8_26 dX8_count_81 rfl ?_
    refine x_cV1 (pc' := 87) hE hM (okC G) hl hR (c_X7_eatenInAll l G _ _ (by omega) _ _ hRW hW (by omega)) kX7_eatenInAll tM_X8_238 (rcv_X7 (by omega) hM) (by decide) dX8_count_84 rfl rfl (Nat.le_of_ble_eq_true rfl) (fun σ2 e2 => ?_)
    replace e2 := e2.symm
    subst e2
    refine x_iret hE dX8_count_87 ?_
    refine ⟨ri ?_, hC⟩
    unfold aCount cnN
    first | (subst_vars; simp; done) | (subst_vars; simp; omega) | (repeat rw [if_neg (by omega)])
  · refine x_tabIn (tgt := 88) (off := 87) hE dX8_count_1 ⟨by omega, by omega⟩ (by omega) (by omega) (by rw [h1]; rfl) (by decide) ?_
    refine x_aload_n (pc' := 89) hE dX8_count_88 rfl rfl ?_
    refine g_X8_2 (pc' := 92) hE hM tF_X8_26 dX8_count_89 rfl ?_
    refine gN_X7_6 (pc' := 95) (by omega) hE hM (fun _ h => nF_X8_210 h) dX8_count_92 rfl ?_
    refine x_iret hE dX8_count_95 ?_
    refine ⟨ri ?_, hC⟩
    unfold aCount cnN
    first | (subst_vars; simp; done) | (subst_vars; simp; omega) | (repeat rw [if_neg (by omega)])
  · refine x_tabIn (tgt := 96) (off := 95) hE dX8_count_1 ⟨by omega, by omega⟩ (by omega) (by omega) (by rw [h1]; rfl) (by decide) ?_
    refine x_aload_n (pc' := 97) hE dX8_count_96 rfl rfl ?_
    refine g_X8_2 (pc' := 100) hE hM tF_X8_26 dX8_count_97 rfl ?_
    refine x_cV1 (pc' := 103) hE hM (okC G) hl hR (c_X7_forgedCells l G _ _ (by omega) _ _ hRW hW (by omega)) kX7_forgedCells tM_X8_249 (rcv_X7 (by omega) hM) (by decide) dX8_count_100 rfl rfl (Nat.le_of_ble_eq_true rfl) (fun σ3 e3 => ?_)
    replace e3 := e3.symm
    subst e3
    refine x_iret hE dX8_count_103 ?_
    refine ⟨ri ?_, hC⟩
    unfold aCount cnN
    first | (subst_vars; simp; done) | (subst_vars; simp; omega) | (repeat rw [if_neg (by omega)])
  · refine x_tabIn (tgt := 104) (off := 103) hE dX8_count_1 ⟨by omega, by omega⟩ (by omega) (by omega) (by rw [h1]; rfl) (by decide) ?_
    refine x_aload_n (pc' := 105) hE dX8_count_104 rfl rfl ?_
    refine g_X8_2 (pc' := 108) hE hM tF_X8_26 dX8_count_105 rfl ?_
    refine gN_X7_3 (pc' := 111) (by omega) hE hM (fun _ h => nF_X8_201 h) dX8_count_108 rfl ?_
    refine gN_X6_2 (pc' := 114) (by omega) hE hM (fun _ h => nF_X8_205 h) dX8_count_111 rfl ?_
    refine x_iret hE dX8_count_114 ?_
    refine ⟨ri ?_, hC⟩
    unfold aCount cnN
    first | (subst_vars; simp; done) | (subst_vars; simp; omega) | (repeat rw [if_neg (by omega)])
  · refine x_tabIn (tgt := 115) (off := 114) hE dX8_count_1 ⟨by omega, by omega⟩ (by omega) (by omega) (by rw [h1]; rfl) (by decide) ?_
    refine x_aload_n (pc' := 116) hE dX8_count_115 rfl rfl ?_
    refine g_X8_0 (pc' := 119) hE hM tF_X8_12 dX8_count_116 rfl ?_
    refine gN_X5_1 (pc' := 122) hE hM (fun _ h => nF_X8_47 h) dX8_count_119 rfl ?_
    refine x_iret hE dX8_count_122 ?_
    refine ⟨ri ?_, hC⟩
    unfold aCount cnN
    first | (subst_vars; simp; done) | (subst_vars; simp; omega) | (repeat rw [if_neg (by omega)])
  · refine x_tabIn (tgt := 123) (off := 122) hE dX8_count_1 ⟨by omega, by omega⟩ (by omega) (by omega) (by rw [h1]; rfl) (by decide) ?_
    refine x_aload_n (pc' := 124) hE dX8_count_123 rfl rfl ?_
    refine g_X8_7 (pc' := 127) hE hM tF_X8_66 dX8_count_124 rfl ?_
    refine x_iret hE dX8_count_127 ?_
    refine ⟨ri ?_, hC⟩
    unfold aCount cnN
    first | (subst_vars; simp; done) | (subst_vars; simp; omega) | (repeat rw [if_neg (by omega)])
  · refine x_tabIn (tgt := 128) (off := 127) hE dX8_count_1 ⟨by omega, by omega⟩ (by omega) (by omega) (by rw [h1]; rfl) (by decide) ?_
    refine x_aload_n (pc' := 129) hE dX8_count_128 rfl rfl ?_
    refine g_X8_8 (pc' := 132) hE hM tF_X8_187 dX8_count_129 rfl ?_
    refine x_iret hE dX8_count_132 ?_
    refine ⟨ri ?_, hC⟩
    unfold aCount cnN
    first | (subst_vars; simp; done) | (subst_vars; simp; omega) | (repeat rw [if_neg (by omega)])
  · refine x_tabOut (tgt := 133) hE dX8_count_1 ⟨by omega, by omega⟩ (by omega) (by decide) ?_
    refine x_bipush (pc' := 135) hE dX8_count_133 rfl (by decide +kernel) ?_
    refine x_iret hE dX8_count_135 ?_
    refine ⟨ri ?_, hC⟩
    unfold aCount cnN
    first | (subst_vars; simp; done) | (subst_vars; simp; omega) | (repeat rw [if_neg (by omega)])
set_option maxHeartbeats 4000000 in
set_option maxRecDepth 10000 in
theorem c_X8_graze (l : Launch) (G : GC) (σ : St) (τ : St) (B : Int) (hI : IM B τ) (hC : RC σ τ) (hB : B ≤ 800000) (f : Int) (hf : inR f) (d : Int) (hd : inR d) (w : Int) (hw : inR w) : Ct l (YC G) yX8_graze (.code yX8_graze cX8_graze 4 (some .int)) 16 [.ref (aC G 0 0 0), .int (iN f), .int (iN d), .int (iN w)] σ (fun v σ' => v = some (.int (iN (aGraze τ f d w))) ∧ RC σ' (sGraze τ f d w)) := by
  refine Ct_of (own := RX8) [some (.ref (aC G 0 0 0)), some (.int (iN f)), some (.int (iN d)), some (.int (iN w))] rfl rfl (Nat.le_of_ble_eq_true rfl) rfl ?_
  intro E hE hM hl hR
  obtain ⟨hW, hF, hrd, hak, hpl, hpg, hwt, hfr, hsn, hso, hce, hkp, hkk⟩ := id hI
  obtain ⟨hnp, hnf, hday, hpp, hff, hcc⟩ := WT_of hW
  obtain ⟨cP, ⟨cN, hRF⟩, hRW, cS, cI, cK, cR, cA⟩ := id hC
  obtain ⟨r1, r2, r3, r4, r5, r6, r7⟩ := id hRW
  obtain ⟨p1, p2⟩ := id cP
  have w00 : wv τ 0 0 = τ 0 0 0 5 := rfl
  have w01 : wv τ 0 1 = τ 0 0 0 9 := rfl
  have w02 : wv τ 0 2 = τ 0 0 0 3 := rfl
  obtain ⟨f1, f2⟩ := hf
  obtain ⟨d1, d2⟩ := hd
  obtain ⟨w1, w2⟩ := hw
  have e6 : wv τ 6 f = τ 8 0 0 f := rfl
  refine x_aload_n (pc' := 1) hE dX8_graze_0 rfl rfl ?_
  refine g_X8_2 (pc' := 4) hE hM tF_X8_26 dX8_graze_1 rfl ?_
  refine x_iload_n (pc' := 5) hE dX8_graze_4 rfl rfl ?_
  refine x_cV1 (pc' := 8) hE hM (okC G) hl hR (c_X7_isGrazing l G _ _ (by omega) _ _ hRW hW (by omega) _ ⟨by omega, by omega⟩) kX7_isGrazing tM_X8_170 (rcv_X7 (by omega) hM) (by omega) dX8_graze_5 rfl rfl (Nat.le_of_ble_eq_true rfl) (fun σ1 e1 => ?_)
  replace e1 := e1.symm
  subst e1
  refine x_ifneB (tgt := 14) (pc' := 11) hE dX8_graze_8 (by decide) rfl (fun h2 => ?_) (fun h2 => ?_)
  · try simp only [decide_eq_true_eq, decide_eq_false_iff_not] at h2
    refine x_iload_n (pc' := 15) hE dX8_graze_14 rfl rfl ?_
    refine x_iconst (pc' := 16) hE dX8_graze_15 rfl ?_
    refine x_icmplt (tgt := 34) (pc' := 19) hE dX8_graze_16 (by decide) rfl ⟨by omega, by omega⟩ ⟨by omega, by omega⟩ (fun h3 => ?_) (fun h3 => ?_)
    · refine x_bipush (pc' := 36) hE dX8_graze_34 rfl (by decide +kernel) ?_
      refine x_iret hE dX8_graze_36 ?_
      refine ⟨ri ?_, ?_⟩
      · first | (exfalso; omega) | skip
        all_goals unfold aGraze
        all_goals repeat' split
        all_goals first | rfl | omega | (exfalso; omega)
      · first | (exfalso; omega) | skip
        all_goals unfold sGraze
        all_goals repeat' split
        all_goals first | exact hC | (exfalso; omega) | (assumption)
    · refine x_iload_n (pc' := 20) hE dX8_graze_19 rfl rfl ?_
      refine x_bipush (pc' := 22) hE dX8_graze_20 rfl (by decide +kernel) ?_
      refine x_icmpgt (tgt := 34) (pc' := 25) hE dX8_graze_22 (by decide) rfl ⟨by omega, by omega⟩ ⟨by omega, by omega⟩ (fun h4 => ?_) (fun h4 => ?_)
      · refine x_bipush (pc' := 36) hE dX8_graze_34 rfl (by decide +kernel) ?_
        refine x_iret hE dX8_graze_36 ?_
        refine ⟨ri ?_, ?_⟩
        · first | (exfalso; omega) | skip
          all_goals unfold aGraze
          all_goals repeat' split
          all_goals first | rfl | omega | (exfalso; omega)
        · first | (exfalso; omega) | skip
          all_goals unfold sGraze
          all_goals repeat' split
          all_goals first | exact hC | (exfalso; omega) | (assumption)
      · refine x_iload_n (pc' := 26) hE dX8_graze_25 rfl rfl ?_
        refine x_iflt (tgt := 34) (pc' := 29) hE dX8_graze_26 (by decide) rfl ⟨by omega, by omega⟩ (fun h5 => ?_) (fun h5 => ?_)
        · refine x_bipush (pc' := 36) hE dX8_graze_34 rfl (by decide +kernel) ?_
          refine x_iret hE dX8_graze_36 ?_
          refine ⟨ri ?_, ?_⟩
          · first | (exfalso; omega) | skip
            all_goals unfold aGraze
            all_goals repeat' split
            all_goals first | rfl | omega | (exfalso; omega)
          · first | (exfalso; omega) | skip
            all_goals unfold sGraze
            all_goals repeat' split
            all_goals first | exact hC | (exfalso; omega) | (assumption)
        · refine x_iload_n (pc' := 30) hE dX8_graze_29 rfl rfl ?_
          refine x_iconst (pc' := 31) hE dX8_graze_30 rfl ?_
          refine x_icmple (tgt := 37) (pc' := 34) hE dX8_graze_31 (by decide) rfl ⟨by omega, by omega⟩ ⟨by omega, by omega⟩ (fun h6 => ?_) (fun h6 => ?_)
          · refine x_aload_n (pc' := 38) hE dX8_graze_37 rfl rfl ?_
            refine g_X8_8 (pc' := 41) hE hM tF_X8_187 dX8_graze_38 rfl ?_
            refine x_bipush (pc' := 43) hE dX8_graze_41 rfl (by decide +kernel) ?_
            refine x_icmplt (tgt := 49) (pc' := 46) hE dX8_graze_43 (by decide) rfl ⟨by omega, by omega⟩ ⟨by omega, by omega⟩ (fun h7 => ?_) (fun h7 => ?_)
            · refine x_aload_n (pc' := 50) hE dX8_graze_49 rfl rfl ?_
              refine x_dup (pc' := 51) hE dX8_graze_50 rfl rfl ?_
              refine g_X8_8 (pc' := 54) hE hM tF_X8_187 dX8_graze_51 rfl ?_
              rw [cA]
              refine x_iconst (pc' := 55) hE dX8_graze_54 rfl ?_
              refine x_iadd (pc' := 56) hE dX8_graze_55 rfl ?_
              refine p_X8_8 (pc' := 59) hE hM tF_X8_187 dX8_graze_56 rfl ?_
              have hC1 := RC_graze hC
              obtain ⟨-, ⟨-, hRF1⟩, -⟩ := id hC1
              obtain ⟨-, -, hRW1, -⟩ := id hC1
              rw [fv_up0 τ (by omega)] at hRF1
              rw [wv_up0 τ (by omega)] at hRW1
              generalize hS1 : up σ 0 0 0 8 (τ 0 0 0 17 + 1) = S1 at *
              refine x_aload_n (pc' := 60) hE dX8_graze_59 rfl rfl ?_
              refine x_cV0 (pc' := 63) hE hM (okC G) hl hR (c_X8_trialFromNow l G _ _ _ hRW1 hW) kX8_trialFromNow tM_X8_180 (rcv_X8 hM) (by omega) dX8_graze_60 rfl rfl (Nat.le_of_ble_eq_true rfl) (fun σ8 e8 => ?_)
              obtain ⟨hfa0, hRt⟩ := e8
              have hRF2 := hfa0.rf hRF1
              have hR02 := hfa0.rw (show (0 : Nat) ≠ 2 by omega) hRW1
              generalize σ8 = T at *
              refine x_iload_n (pc' := 64) hE dX8_graze_63 rfl rfl ?_
              refine x_ifne (tgt := 76) (pc' := 67) hE dX8_graze_64 (by decide) rfl ⟨by omega, by omega⟩ (fun h9 => ?_) (fun h9 => ?_)
              · refine x_aload_n (pc' := 77) hE dX8_graze_76 rfl rfl ?_
                refine x_iload_n (pc' := 78) hE dX8_graze_77 rfl rfl ?_
                refine x_iload_n (pc' := 79) hE dX8_graze_78 rfl rfl ?_
                refine x_st (st' := [.int (iN ((d.toNat : Nat) : Int)), .int (iN f), .ref (aC G 0 0 0)]) (by rw [show ((d.toNat : Nat) : Int) = d by omega]) ?_
                refine x_cV1 (pc' := 82) hE hM (okC G) hl hR (grz_all l G (fv τ) d.toNat (by omega) _ _ _ _ hRt hW (by omega) hRF2 (by omega) (by omega)) kX8_rowsBehind tM_X8_194 (rcv_X8 hM) (by omega) dX8_graze_79 rfl rfl (Nat.le_of_ble_eq_true rfl) (fun σ10 e10 => ?_)
                have hfb := e10.1
                refine x_iret hE dX8_graze_82 ?_
                refine ⟨ri ?_, ?_⟩
                · unfold aGraze
                  rw [if_neg (show ¬ nFk τ f by omega), if_neg (show ¬ (¬ (1 ≤ d ∧ d ≤ 6) ∨ ¬ (0 ≤ w ∧ w ≤ 1)) by omega), if_neg (show ¬ τ 0 0 0 17 = 60 by omega), grz_eq _ _ _ _ _ (by omega)]
                  rw [if_neg (by omega)]
                · rw [sGraze, if_pos (by omega)]
                  exact (hC1.try hfa0).try hfb.fa
              · refine x_aload_n (pc' := 68) hE dX8_graze_67 rfl rfl ?_
                refine x_iload_n (pc' := 69) hE dX8_graze_68 rfl rfl ?_
                refine x_iload_n (pc' := 70) hE dX8_graze_69 rfl rfl ?_
                refine x_st (st' := [.int (iN (((d - 1).toNat + 1 : Nat) : Int)), .int (iN f), .ref (aC G 0 0 0)]) (by rw [show (((d - 1).toNat + 1 : Nat) : Int) = d by omega]) ?_
                refine x_cV1 (pc' := 73) hE hM (okC G) hl hR (c_X8_firstCellOfGrazing l G _ _ (d - 1).toNat (by omega) _ _ _ hR02 hRt hW (by omega) hRF2 (by omega) (by omega)) kX8_firstCellOfGrazing tM_X8_190 (rcv_X8 hM) (by omega) dX8_graze_70 rfl rfl (Nat.le_of_ble_eq_true rfl) (fun σ11 e11 => ?_)
                have hfb := e11
                refine x_goto (tgt := 82) hE dX8_graze_73 (by decide) ?_
                refine x_iret hE dX8_graze_82 ?_
                refine ⟨ri ?_, ?_⟩
                · unfold aGraze
                  rw [if_neg (show ¬ nFk τ f by omega), if_neg (show ¬ (¬ (1 ≤ d ∧ d ≤ 6) ∨ ¬ (0 ≤ w ∧ w ≤ 1)) by omega), if_neg (show ¬ τ 0 0 0 17 = 60 by omega), grz_eq _ _ _ _ _ (by omega)]
                  rw [if_pos (by omega)]
                · rw [sGraze, if_pos (by omega)]
                  exact (hC1.try hfa0).try hfb.fa
            · refine x_bipush (pc' := 48) hE dX8_graze_46 rfl (by decide +kernel) ?_
              refine x_iret hE dX8_graze_48 ?_
              refine ⟨ri ?_, ?_⟩
              · first | (exfalso; omega) | skip
                all_goals unfold aGraze
                all_goals repeat' split
                all_goals first | rfl | omega | (exfalso; omega)
              · first | (exfalso; omega) | skip
                all_goals unfold sGraze
                all_goals repeat' split
                all_goals first | exact hC | (exfalso; omega) | (assumption)
          · refine x_bipush (pc' := 36) hE dX8_graze_34 rfl (by decide +kernel) ?_
            refine x_iret hE dX8_graze_36 ?_
            refine ⟨ri ?_, ?_⟩
            · first | (exfalso; omega) | skip
              all_goals unfold aGraze
              all_goals repeat' split
              all_goals first | rfl | omega | (exfalso; omega)
            · first | (exfalso; omega) | skip
              all_goals unfold sGraze
              all_goals repeat' split
              all_goals first | exact hC | (exfalso; omega) | (assumption)
  · try simp only [decide_eq_true_eq, decide_eq_false_iff_not] at h2
    refine x_bipush (pc' := 13) hE dX8_graze_11 rfl (by decide +kernel) ?_
    refine x_iret hE dX8_graze_13 ?_
    refine ⟨ri ?_, ?_⟩
    · first | (exfalso; omega) | skip
      all_goals unfold aGraze
      all_goals repeat' split
      all_goals first | rfl | omega | (exfalso; omega)
    · first | (exfalso; omega) | skip
      all_goals unfold sGraze
      all_goals repeat' split
      all_goals first | exact hC | (exfalso; omega) | (assumption)
