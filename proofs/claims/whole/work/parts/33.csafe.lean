set_option maxHeartbeats 4000000 in
set_option maxRecDepth 10000 in
theorem c_X8_safe (l : Launch) (G : GC) (σ : St) (τ : St) (B : Int) (hI : IM B τ) (hC : RC σ τ) (hB : B ≤ 800000) (f : Int) (hf : inR f) (d : Int) (hd : inR d) : Ct l (YC G) yX8_safe (.code yX8_safe cX8_safe 4 (some .int)) 5 [.ref (aC G 0 0 0), .int (iN f), .int (iN d)] σ (fun v σ' => v = some (.int (iN (aSafe τ f d))) ∧ RC σ' τ) := by
  refine Ct_of (own := RX8) [some (.ref (aC G 0 0 0)), some (.int (iN f)), some (.int (iN d)), none] rfl rfl (Nat.le_of_ble_eq_true rfl) rfl ?_
  intro E hE hM hl hR
  obtain ⟨hW, hF, hrd, hak, hpl, hpg, hwt, hfr, hsn, hso, hce, hkp, hkk⟩ := id hI
  obtain ⟨hnp, hnf, hday, hpp, hff, hcc⟩ := WT_of hW
  obtain ⟨cP, ⟨cN, hRF⟩, hRW, cS, cI, cK, cR, cA⟩ := id hC
  obtain ⟨r1, r2, r3, r4, r5, r6, r7⟩ := id hRW
  obtain ⟨p1, p2⟩ := id cP
  have w00 : wv τ 0 0 = τ 0 0 0 5 := rfl
  have w01 : wv τ 0 1 = τ 0 0 0 9 := rfl
  have w02 : wv τ 0 2 = τ 0 0 0 3 := rfl
  obtain ⟨f1, f2⟩ := hf
  obtain ⟨d1, d2⟩ := hd
  have e6 : wv τ 6 f = τ 8 0 0 f := rfl
  have loop : ∀ (n : Nat) (k : Int) (S : St), ¬ nFk τ f → (1 ≤ d ∧ d ≤ 30) → FrA 2 σ S → 0 ≤ k → k ≤ 10 → 10 - k = n → safeN (fv τ) (wv τ) f d.toNat = lst (fun n => decide (fallK (fv τ) (wu (wv τ) 4 f n) f d.toNat 1 = -1)) (10 - k).toNat k → VV E 4 (AS (YC G)) (Qm (YC G) (fun v σ' => v = some (.int (iN (aSafe τ f d))) ∧ RC σ' τ) E) (Rh (YC G) (S)) 30 [some (.ref (aC G 0 0 0)), some (.int (iN f)), some (.int (iN d)), some (.int (iN (k)))] [] := by
    intro n
    induction n using Nat.strongRecOn with
    | _ n ih =>
    intro k S hf0 hd0 hfa g0 g1 g2 g3
    have hRS := hfa.rw (show (0 : Nat) ≠ 2 by omega) hRW
    have hRFS := hfa.rf hRF
    have e10 : k < 10 → (10 - k).toNat = (10 - (k + 1)).toNat + 1 := by omega
    refine x_iload_n (pc' := 31) hE dX8_safe_30 rfl rfl ?_
    refine x_bipush (pc' := 33) hE dX8_safe_31 rfl (by decide +kernel) ?_
    refine x_icmpge (tgt := 78) (pc' := 36) hE dX8_safe_33 (by decide) rfl ⟨by omega, by omega⟩ ⟨by omega, by omega⟩ (fun h1 => ?_) (fun h1 => ?_)
    · refine x_iconst (pc' := 79) hE dX8_safe_78 rfl ?_
      refine x_iret hE dX8_safe_79 ?_
      refine ⟨ri ?_, hC.try hfa⟩
      unfold aSafe
      rw [if_neg (by omega), if_pos hd0, g3, show (10 - k).toNat = 0 by omega]
      rfl
    · refine x_aload_n (pc' := 37) hE dX8_safe_36 rfl rfl ?_
      refine x_cV0 (pc' := 40) hE hM (okC G) hl hR (c_X8_trialFromNow l G _ _ _ hRS hW) kX8_trialFromNow tM_X8_180 (rcv_X8 hM) (by decide) dX8_safe_37 rfl rfl (Nat.le_of_ble_eq_true rfl) (fun σ2 e2 => ?_)
      obtain ⟨hfa0, hRt⟩ := e2
      generalize σ2 = T at *
      have hRt2 := RW_name (f := f) (n := k) hRt
      have hfaT := (hfa.trans hfa0).trans (show FrA 2 T (up T 12 2 f 0 k) from fun a b c x q => up_n (by omega))
      have hRF2 := hfaT.rf hRF
      have hW2 : WOk B (wu (wv τ) 4 f k) := wu4_ok hW (by omega) (by omega)
      have w2 : wu (wv τ) 4 f k 0 1 = τ 0 0 0 9 := wu_r (by decide)
      have hb9 := fallK_bd (fv τ) f d.toNat (wu (wv τ) 4 f k) 1 (by omega)
      refine x_aload_n (pc' := 41) hE dX8_safe_40 rfl rfl ?_
      refine g_X8_4 (pc' := 44) hE hM tF_X8_33 dX8_safe_41 rfl ?_
      refine gN_X7_1 (pc' := 47) (by omega) hE hM (fun _ h => nF_X8_148 h) dX8_safe_44 rfl ?_
      refine x_iload_n (pc' := 48) hE dX8_safe_47 rfl rfl ?_
      refine aC_8 (pc' := 49) (by omega) hE hM (by omega) (by omega) dX8_safe_48 rfl ?_
      refine x_iload_n (pc' := 50) hE dX8_safe_49 rfl rfl ?_
      refine pN_X2_0 (pc' := 53) (by omega) (by omega) (by omega) hE hM (fun _ h => nF_X8_160 h) dX8_safe_50 rfl ?_
      refine x_aload_n (pc' := 54) hE dX8_safe_53 rfl rfl ?_
      refine g_X8_4 (pc' := 57) hE hM tF_X8_33 dX8_safe_54 rfl ?_
      refine x_iload_n (pc' := 58) hE dX8_safe_57 rfl rfl ?_
      refine x_iload_n (pc' := 59) hE dX8_safe_58 rfl rfl ?_
      refine x_aload_n (pc' := 60) hE dX8_safe_59 rfl rfl ?_
      refine g_X8_1 (pc' := 63) hE hM tF_X8_19 dX8_safe_60 rfl ?_
      refine x_cV1 (pc' := 66) hE hM (okC G) hl hR (c_X7_daysUntilEaten l G _ _ (by omega) _ _ hRt2 hW2 (by omega) _ hRF2 _ _ (by omega) (by omega) (by omega) (by omega)) kX7_daysUntilEaten tM_X8_183 (rcv_X7 (by omega) hM) (by decide) dX8_safe_63 rfl rfl (Nat.le_of_ble_eq_true rfl) (fun σ3 e3 => ?_)
      have hfb := hfaT.trans e3.fa
      refine x_iconst (pc' := 67) hE dX8_safe_66 rfl ?_
      refine x_icmpne (tgt := 72) (pc' := 70) hE dX8_safe_67 (by decide) rfl ⟨by omega, by omega⟩ ⟨by omega, by omega⟩ (fun h4 => ?_) (fun h4 => ?_)
      · refine x_iinc (pc' := 75) hE dX8_safe_72 rfl rfl (by decide) rfl rfl ?_
        dsimp only [List.set]
        refine x_goto (tgt := 30) hE dX8_safe_75 (by decide) ?_
        refine ih (n - 1) (by omega) (k + 1) _ hf0 hd0 hfb (by omega) (by omega) (by omega) ?_
        rw [g3, e10 (by omega), lst_s, if_neg (by simp; omega)]
      · refine x_iload_n (pc' := 71) hE dX8_safe_70 rfl rfl ?_
        refine x_iret hE dX8_safe_71 ?_
        refine ⟨ri ?_, hC.try hfb⟩
        unfold aSafe
        rw [if_neg (by omega), if_pos hd0, g3, e10 (by omega), lst_s, if_pos (by simp; omega)]
  refine x_aload_n (pc' := 1) hE dX8_safe_0 rfl rfl ?_
  refine g_X8_2 (pc' := 4) hE hM tF_X8_26 dX8_safe_1 rfl ?_
  refine x_iload_n (pc' := 5) hE dX8_safe_4 rfl rfl ?_
  refine x_cV1 (pc' := 8) hE hM (okC G) hl hR (c_X7_isGrazing l G _ _ (by omega) _ _ hRW hW (by omega) _ ⟨by omega, by omega⟩) kX7_isGrazing tM_X8_170 (rcv_X7 (by omega) hM) (by decide) dX8_safe_5 rfl rfl (Nat.le_of_ble_eq_true rfl) (fun σ5 e5 => ?_)
  replace e5 := e5.symm
  subst e5
  refine x_ifneB (tgt := 14) (pc' := 11) hE dX8_safe_8 (by decide) rfl (fun h6 => ?_) (fun h6 => ?_)
  · try simp only [decide_eq_true_eq, decide_eq_false_iff_not] at h6
    refine x_iload_n (pc' := 15) hE dX8_safe_14 rfl rfl ?_
    refine x_iconst (pc' := 16) hE dX8_safe_15 rfl ?_
    refine x_icmplt (tgt := 25) (pc' := 19) hE dX8_safe_16 (by decide) rfl ⟨by omega, by omega⟩ ⟨by omega, by omega⟩ (fun h7 => ?_) (fun h7 => ?_)
    · refine x_bipush (pc' := 27) hE dX8_safe_25 rfl (by decide +kernel) ?_
      refine x_iret hE dX8_safe_27 ?_
      refine ⟨ri ?_, ?_⟩
      · first | (exfalso; omega) | skip
        all_goals unfold aSafe
        all_goals repeat' split
        all_goals first | rfl | omega | (exfalso; omega)
      · first | (exfalso; omega) | skip
        all_goals first | exact hC | (exfalso; omega) | (assumption)
    · refine x_iload_n (pc' := 20) hE dX8_safe_19 rfl rfl ?_
      refine x_bipush (pc' := 22) hE dX8_safe_20 rfl (by decide +kernel) ?_
      refine x_icmple (tgt := 28) (pc' := 25) hE dX8_safe_22 (by decide) rfl ⟨by omega, by omega⟩ ⟨by omega, by omega⟩ (fun h8 => ?_) (fun h8 => ?_)
      · refine x_iconst (pc' := 29) hE dX8_safe_28 rfl ?_
        refine x_istore_n (pc' := 30) hE dX8_safe_29 rfl (by decide) rfl rfl ?_
        dsimp only [List.set]
        exact loop 10 0 σ (by omega) (by omega) (FrA.refl 2 σ) (by omega) (by omega) (by omega) rfl
      · refine x_bipush (pc' := 27) hE dX8_safe_25 rfl (by decide +kernel) ?_
        refine x_iret hE dX8_safe_27 ?_
        refine ⟨ri ?_, ?_⟩
        · first | (exfalso; omega) | skip
          all_goals unfold aSafe
          all_goals repeat' split
          all_goals first | rfl | omega | (exfalso; omega)
        · first | (exfalso; omega) | skip
          all_goals first | exact hC | (exfalso; omega) | (assumption)
  · try simp only [decide_eq_true_eq, decide_eq_false_iff_not] at h6
    refine x_bipush (pc' := 13) hE dX8_safe_11 rfl (by decide +kernel) ?_
    refine x_iret hE dX8_safe_13 ?_
    refine ⟨ri ?_, ?_⟩
    · first | (exfalso; omega) | skip
      all_goals unfold aSafe
      all_goals repeat' split
      all_goals first | rfl | omega | (exfalso; omega)
    · first | (exfalso; omega) | skip
      all_goals first | exact hC | (exfalso; omega) | (assumption)
