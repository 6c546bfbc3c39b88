set_option maxHeartbeats 4000000 in
set_option maxRecDepth 10000 in
theorem c_X8_blank (l : Launch) (G : GC) (σ : St) (τ : St) (B : Int) (hI : IM B τ) (hC : RC σ τ) (hB : B ≤ 800000) : Ct l (YC G) yX8_blank (.code yX8_blank cX8_blank 2 (some .int)) 1 [.ref (aC G 0 0 0)] σ (fun v σ' => v = some (.int (iN (aBlank τ))) ∧ RC σ' (sBlank τ)) := by
  refine Ct_of (own := RX8) [some (.ref (aC G 0 0 0)), none] rfl rfl (Nat.le_of_ble_eq_true rfl) rfl ?_
  intro E hE hM hl hR
  obtain ⟨hW, hF, hrd, hak, hpl, hpg, hwt, hfr, hsn, hso, hce, hkp, hkk⟩ := id hI
  obtain ⟨hnp, hnf, hday, hpp, hff, hcc⟩ := WT_of hW
  obtain ⟨cP, ⟨cN, hRF⟩, hRW, cS, cI, cK, cR, cA⟩ := id hC
  obtain ⟨r1, r2, r3, r4, r5, r6, r7⟩ := id hRW
  obtain ⟨p1, p2⟩ := id cP
  have w00 : wv τ 0 0 = τ 0 0 0 5 := rfl
  have w01 : wv τ 0 1 = τ 0 0 0 9 := rfl
  have w02 : wv τ 0 2 = τ 0 0 0 3 := rfl
  refine x_aload_n (pc' := 1) hE dX8_blank_0 rfl rfl ?_
  refine g_X8_0 (pc' := 4) hE hM tF_X8_12 dX8_blank_1 rfl ?_
  refine gN_X5_1 (pc' := 7) hE hM (fun _ h => nF_X8_47 h) dX8_blank_4 rfl ?_
  rw [p1]
  refine x_istore_n (pc' := 8) hE dX8_blank_7 rfl (by decide) rfl rfl ?_
  dsimp only [List.set]
  refine x_aload_n (pc' := 9) hE dX8_blank_8 rfl rfl ?_
  refine g_X8_0 (pc' := 12) hE hM tF_X8_12 dX8_blank_9 rfl ?_
  refine x_cV0 (pc' := 15) hE hM (okC G) hl hR (c_X5_clear l G _) kX5_clear tM_X8_51 (rcv_X5 hM) (by decide) dX8_blank_12 rfl rfl (Nat.le_of_ble_eq_true rfl) (fun σ1 e1 => ?_)
  replace e1 := e1.symm
  subst e1
  refine x_iload_n (pc' := 16) hE dX8_blank_15 rfl rfl ?_
  refine x_iret hE dX8_blank_16 ?_
  refine ⟨ri ?_, ?_⟩
  · first | (exfalso; omega) | skip
    all_goals unfold aBlank
    all_goals repeat' split
    all_goals first | rfl | omega | (exfalso; omega)
  · first | (exfalso; omega) | skip
    all_goals first | exact hC | (exfalso; omega) | (exact RC_blank hC)
set_option maxHeartbeats 4000000 in
set_option maxRecDepth 10000 in
theorem c_X8_fault (l : Launch) (G : GC) (σ : St) (τ : St) (B : Int) (hI : IM B τ) (hC : RC σ τ) (hB : B ≤ 800000) : Ct l (YC G) yX8_fault (.code yX8_fault cX8_fault 1 (some .int)) 3 [.ref (aC G 0 0 0)] σ (fun v σ' => v = some (.int (iN (aFault τ))) ∧ RC σ' τ) := by
  refine Ct_of (own := RX8) [some (.ref (aC G 0 0 0))] rfl rfl (Nat.le_of_ble_eq_true rfl) rfl ?_
  intro E hE hM hl hR
  obtain ⟨hW, hF, hrd, hak, hpl, hpg, hwt, hfr, hsn, hso, hce, hkp, hkk⟩ := id hI
  obtain ⟨hnp, hnf, hday, hpp, hff, hcc⟩ := WT_of hW
  obtain ⟨cP, ⟨cN, hRF⟩, hRW, cS, cI, cK, cR, cA⟩ := id hC
  obtain ⟨r1, r2, r3, r4, r5, r6, r7⟩ := id hRW
  obtain ⟨p1, p2⟩ := id cP
  have w00 : wv τ 0 0 = τ 0 0 0 5 := rfl
  have w01 : wv τ 0 1 = τ 0 0 0 9 := rfl
  have w02 : wv τ 0 2 = τ 0 0 0 3 := rfl
  refine x_aload_n (pc' := 1) hE dX8_fault_0 rfl rfl ?_
  refine g_X8_0 (pc' := 4) hE hM tF_X8_12 dX8_fault_1 rfl ?_
  refine x_cV1 (pc' := 7) hE hM (okC G) hl hR (c_X5_firstFault l G _ _ _ cP (by omega) hpg) kX5_firstFault tM_X8_54 (rcv_X5 hM) (by decide) dX8_fault_4 rfl rfl (Nat.le_of_ble_eq_true rfl) (fun σ1 e1 => ?_)
  replace e1 := e1.symm
  subst e1
  refine x_iret hE dX8_fault_7 ?_
  refine ⟨ri ?_, ?_⟩
  · first | (exfalso; omega) | skip
    all_goals unfold aFault
    all_goals repeat' split
    all_goals first | rfl | omega | (exfalso; omega)
  · first | (exfalso; omega) | skip
    all_goals first | exact hC | (exfalso; omega) | (assumption)
set_option maxHeartbeats 4000000 in
set_option maxRecDepth 10000 in
theorem c_X8_forge (l : Launch) (G : GC) (σ : St) (τ : St) (B : Int) (hI : IM B τ) (hC : RC σ τ) (hB : B ≤ 800000) (c : Int) (hc : inR c) (d : Int) (hd : inR d) : Ct l (YC G) yX8_forge (.code yX8_forge cX8_forge 4 (some .int)) 1 [.ref (aC G 0 0 0), .int (iN c), .int (iN d)] σ (fun v σ' => v = some (.int (iN (aForge τ c d))) ∧ RC σ' (sForge τ c d)) := by
  refine Ct_of (own := RX8) [some (.ref (aC G 0 0 0)), some (.int (iN c)), some (.int (iN d)), none] rfl rfl (Nat.le_of_ble_eq_true rfl) rfl ?_
  intro E hE hM hl hR
  obtain ⟨hW, hF, hrd, hak, hpl, hpg, hwt, hfr, hsn, hso, hce, hkp, hkk⟩ := id hI
  obtain ⟨hnp, hnf, hday, hpp, hff, hcc⟩ := WT_of hW
  obtain ⟨cP, ⟨cN, hRF⟩, hRW, cS, cI, cK, cR, cA⟩ := id hC
  obtain ⟨r1, r2, r3, r4, r5, r6, r7⟩ := id hRW
  obtain ⟨p1, p2⟩ := id cP
  have w00 : wv τ 0 0 = τ 0 0 0 5 := rfl
  have w01 : wv τ 0 1 = τ 0 0 0 9 := rfl
  have w02 : wv τ 0 2 = τ 0 0 0 3 := rfl
  obtain ⟨c1, c2⟩ := hc
  obtain ⟨d1, d2⟩ := hd
  refine x_iload_n (pc' := 1) hE dX8_forge_0 rfl rfl ?_
  refine x_cS1 (pc' := 4) hE hM (okC G) hl hR (c_X8_isCell l G _ _ ⟨by omega, by omega⟩) kX8_isCell tM_X8_80 (by decide) dX8_forge_1 rfl rfl (Nat.le_of_ble_eq_true rfl) (fun σ1 e1 => ?_)
  replace e1 := e1.symm
  subst e1
  refine x_ifneB (tgt := 10) (pc' := 7) hE dX8_forge_4 (by decide) rfl (fun h2 => ?_) (fun h2 => ?_)
  · try simp only [decide_eq_true_eq, decide_eq_false_iff_not] at h2
    refine x_iload_n (pc' := 11) hE dX8_forge_10 rfl rfl ?_
    refine x_iflt (tgt := 20) (pc' := 14) hE dX8_forge_11 (by decide) rfl ⟨by omega, by omega⟩ (fun h3 => ?_) (fun h3 => ?_)
    · refine x_bipush (pc' := 22) hE dX8_forge_20 rfl (by decide +kernel) ?_
      refine x_iret hE dX8_forge_22 ?_
      refine ⟨ri ?_, ?_⟩
      · first | (exfalso; omega) | skip
        all_goals unfold aForge
        all_goals repeat' split
        all_goals first | rfl | omega | (exfalso; omega)
      · first | (exfalso; omega) | skip
        all_goals unfold sForge
        all_goals repeat' split
        all_goals first | exact hC | (exfalso; omega) | (exact RC_forge hC)
    · refine x_iload_n (pc' := 15) hE dX8_forge_14 rfl rfl ?_
      refine x_bipush (pc' := 17) hE dX8_forge_15 rfl (by decide +kernel) ?_
      refine x_icmplt (tgt := 23) (pc' := 20) hE dX8_forge_17 (by decide) rfl ⟨by omega, by omega⟩ ⟨by omega, by omega⟩ (fun h4 => ?_) (fun h4 => ?_)
      · have q7 := r7 c (by omega) (by omega)
        have q8 : wv τ 7 c = τ 2 0 0 c := rfl
        refine x_aload_n (pc' := 24) hE dX8_forge_23 rfl rfl ?_
        refine g_X8_2 (pc' := 27) hE hM tF_X8_26 dX8_forge_24 rfl ?_
        refine gN_X7_2 (pc' := 30) (by omega) hE hM (fun _ h => nF_X8_83 h) dX8_forge_27 rfl ?_
        refine x_iload_n (pc' := 31) hE dX8_forge_30 rfl rfl ?_
        refine aC_9 (pc' := 32) (by omega) hE hM (by omega) (by omega) dX8_forge_31 rfl ?_
        refine x_istore_n (pc' := 33) hE dX8_forge_32 rfl (by decide) rfl rfl ?_
        dsimp only [List.set]
        refine x_aload_n (pc' := 34) hE dX8_forge_33 rfl rfl ?_
        refine g_X8_2 (pc' := 37) hE hM tF_X8_26 dX8_forge_34 rfl ?_
        refine gN_X7_2 (pc' := 40) (by omega) hE hM (fun _ h => nF_X8_83 h) dX8_forge_37 rfl ?_
        refine x_iload_n (pc' := 41) hE dX8_forge_40 rfl rfl ?_
        refine x_iload_n (pc' := 42) hE dX8_forge_41 rfl rfl ?_
        refine sC_9 (pc' := 43) (by omega) hE hM (by omega) (by omega) dX8_forge_42 rfl ?_
        refine x_iload_n (pc' := 44) hE dX8_forge_43 rfl rfl ?_
        refine x_iret hE dX8_forge_44 ?_
        refine ⟨ri ?_, ?_⟩
        · first | (exfalso; omega) | skip
          all_goals unfold aForge
          all_goals repeat' split
          all_goals first | rfl | omega | (exfalso; omega)
        · first | (exfalso; omega) | skip
          all_goals unfold sForge
          all_goals repeat' split
          all_goals first | exact hC | (exfalso; omega) | (exact RC_forge hC)
      · refine x_bipush (pc' := 22) hE dX8_forge_20 rfl (by decide +kernel) ?_
        refine x_iret hE dX8_forge_22 ?_
        refine ⟨ri ?_, ?_⟩
        · first | (exfalso; omega) | skip
          all_goals unfold aForge
          all_goals repeat' split
          all_goals first | rfl | omega | (exfalso; omega)
        · first | (exfalso; omega) | skip
          all_goals unfold sForge
          all_goals repeat' split
          all_goals first | exact hC | (exfalso; omega) | (exact RC_forge hC)
  · try simp only [decide_eq_true_eq, decide_eq_false_iff_not] at h2
    refine x_bipush (pc' := 9) hE dX8_forge_7 rfl (by decide +kernel) ?_
    refine x_iret hE dX8_forge_9 ?_
    refine ⟨ri ?_, ?_⟩
    · first | (exfalso; omega) | skip
      all_goals unfold aForge
      all_goals repeat' split
      all_goals first | rfl | omega | (exfalso; omega)
    · first | (exfalso; omega) | skip
      all_goals unfold sForge
      all_goals repeat' split
      all_goals first | exact hC | (exfalso; omega) | (exact RC_forge hC)
set_option maxHeartbeats 4000000 in
set_option maxRecDepth 10000 in
theorem c_X8_letter (l : Launch) (G : GC) (σ : St) (τ : St) (B : Int) (hI : IM B τ) (hC : RC σ τ) (hB : B ≤ 800000) (c : Int) (hc : inR c) : Ct l (YC G) yX8_letter (.code yX8_letter cX8_letter 2 (some .int)) 1 [.ref (aC G 0 0 0), .int (iN c)] σ (fun v σ' => v = some (.int (iN (aLetter τ c))) ∧ RC σ' (sLetter τ c)) := by
  refine Ct_of (own := RX8) [some (.ref (aC G 0 0 0)), some (.int (iN c))] rfl rfl (Nat.le_of_ble_eq_true rfl) rfl ?_
  intro E hE hM hl hR
  obtain ⟨hW, hF, hrd, hak, hpl, hpg, hwt, hfr, hsn, hso, hce, hkp, hkk⟩ := id hI
  obtain ⟨hnp, hnf, hday, hpp, hff, hcc⟩ := WT_of hW
  obtain ⟨cP, ⟨cN, hRF⟩, hRW, cS, cI, cK, cR, cA⟩ := id hC
  obtain ⟨r1, r2, r3, r4, r5, r6, r7⟩ := id hRW
  obtain ⟨p1, p2⟩ := id cP
  have w00 : wv τ 0 0 = τ 0 0 0 5 := rfl
  have w01 : wv τ 0 1 = τ 0 0 0 9 := rfl
  have w02 : wv τ 0 2 = τ 0 0 0 3 := rfl
  obtain ⟨c1, c2⟩ := hc
  refine x_iload_n (pc' := 1) hE dX8_letter_0 rfl rfl ?_
  refine x_bipush (pc' := 3) hE dX8_letter_1 rfl (by decide +kernel) ?_
  refine x_icmplt (tgt := 12) (pc' := 6) hE dX8_letter_3 (by decide) rfl ⟨by omega, by omega⟩ ⟨by omega, by omega⟩ (fun h1 => ?_) (fun h1 => ?_)
  · refine x_bipush (pc' := 14) hE dX8_letter_12 rfl (by decide +kernel) ?_
    refine x_iret hE dX8_letter_14 ?_
    refine ⟨ri ?_, ?_⟩
    · first | (exfalso; omega) | skip
      all_goals unfold aLetter
      all_goals repeat' split
      all_goals first | rfl | omega | (exfalso; omega)
    · first | (exfalso; omega) | skip
      all_goals unfold sLetter
      all_goals repeat' split
      all_goals first | exact hC | (exfalso; omega) | (exact RC_letter hC)
  · refine x_iload_n (pc' := 7) hE dX8_letter_6 rfl rfl ?_
    refine x_bipush (pc' := 9) hE dX8_letter_7 rfl (by decide +kernel) ?_
    refine x_icmple (tgt := 15) (pc' := 12) hE dX8_letter_9 (by decide) rfl ⟨by omega, by omega⟩ ⟨by omega, by omega⟩ (fun h2 => ?_) (fun h2 => ?_)
    · refine x_aload_n (pc' := 16) hE dX8_letter_15 rfl rfl ?_
      refine g_X8_0 (pc' := 19) hE hM tF_X8_12 dX8_letter_16 rfl ?_
      refine x_iload_n (pc' := 20) hE dX8_letter_19 rfl rfl ?_
      refine x_i2c (pc' := 21) hE dX8_letter_20 rfl (nar_c (by omega) (by omega)) ?_
      refine x_cV1 (pc' := 24) hE hM (okC G) hl hR (c_X5_put l G _ _ _ cP (by omega) hpg _ (by omega) (by omega)) kX5_put tM_X8_43 (rcv_X5 hM) (by decide) dX8_letter_21 rfl rfl (Nat.le_of_ble_eq_true rfl) (fun σ3 e3 => ?_)
      replace e3 := e3.symm
      subst e3
      refine x_ifneB (tgt := 30) (pc' := 27) hE dX8_letter_24 (by decide) rfl (fun h4 => ?_) (fun h4 => ?_)
      · try simp only [decide_eq_true_eq, decide_eq_false_iff_not] at h4
        rw [if_pos (by omega)]
        refine x_aload_n (pc' := 31) hE dX8_letter_30 rfl rfl ?_
        refine g_X8_0 (pc' := 34) hE hM tF_X8_12 dX8_letter_31 rfl ?_
        refine gN_X5_1 (pc' := 37) hE hM (fun _ h => nF_X8_47 h) dX8_letter_34 rfl ?_
        rw [up_s]
        refine x_iret hE dX8_letter_37 ?_
        refine ⟨ri ?_, ?_⟩
        · first | (exfalso; omega) | skip
          all_goals unfold aLetter
          all_goals repeat' split
          all_goals first | rfl | omega | (exfalso; omega)
        · first | (exfalso; omega) | skip
          all_goals unfold sLetter
          all_goals repeat' split
          all_goals first | exact hC | (exfalso; omega) | (exact RC_letter hC)
      · try simp only [decide_eq_true_eq, decide_eq_false_iff_not] at h4
        rw [if_neg (by omega)]
        refine x_bipush (pc' := 29) hE dX8_letter_27 rfl (by decide +kernel) ?_
        refine x_iret hE dX8_letter_29 ?_
        refine ⟨ri ?_, ?_⟩
        · first | (exfalso; omega) | skip
          all_goals unfold aLetter
          all_goals repeat' split
          all_goals first | rfl | omega | (exfalso; omega)
        · first | (exfalso; omega) | skip
          all_goals unfold sLetter
          all_goals repeat' split
          all_goals first | exact hC | (exfalso; omega) | (exact RC_letter hC)
    · refine x_bipush (pc' := 14) hE dX8_letter_12 rfl (by decide +kernel) ?_
      refine x_iret hE dX8_letter_14 ?_
      refine ⟨ri ?_, ?_⟩
      · first | (exfalso; omega) | skip
        all_goals unfold aLetter
        all_goals repeat' split
        all_goals first | rfl | omega | (exfalso; omega)
      · first | (exfalso; omega) | skip
        all_goals unfold sLetter
        all_goals repeat' split
        all_goals first | exact hC | (exfalso; omega) | (exact RC_letter hC)
set_option maxHeartbeats 4000000 in
set_option maxRecDepth 10000 in
theorem c_X8_dayOf (l : Launch) (G : GC) (σ : St) (τ : St) (B : Int) (hI : IM B τ) (hC : RC σ τ) (hB : B ≤ 800000) (d : Int) (hd : inR d) (w : Int) (hw : inR w) : Ct l (YC G) yX8_dayOf (.code yX8_dayOf cX8_dayOf 3 (some .int)) 1 [.ref (aC G 0 0 0), .int (iN d), .int (iN w)] σ (fun v σ' => v = some (.int (iN (aDayOf τ d w))) ∧ RC σ' τ) := by
  refine Ct_of (own := RX8) [some (.ref (aC G 0 0 0)), some (.int (iN d)), some (.int (iN w))] rfl rfl (Nat.le_of_ble_eq_true rfl) rfl ?_
  intro E hE hM hl hR
  obtain ⟨hW, hF, hrd, hak, hpl, hpg, hwt, hfr, hsn, hso, hce, hkp, hkk⟩ := id hI
  obtain ⟨hnp, hnf, hday, hpp, hff, hcc⟩ := WT_of hW
  obtain ⟨cP, ⟨cN, hRF⟩, hRW, cS, cI, cK, cR, cA⟩ := id hC
  obtain ⟨r1, r2, r3, r4, r5, r6, r7⟩ := id hRW
  obtain ⟨p1, p2⟩ := id cP
  have w00 : wv τ 0 0 = τ 0 0 0 5 := rfl
  have w01 : wv τ 0 1 = τ 0 0 0 9 := rfl
  have w02 : wv τ 0 2 = τ 0 0 0 3 := rfl
  obtain ⟨d1, d2⟩ := hd
  obtain ⟨w1, w2⟩ := hw
  refine x_iload_n (pc' := 1) hE dX8_dayOf_0 rfl rfl ?_
  refine x_iflt (tgt := 11) (pc' := 4) hE dX8_dayOf_1 (by decide) rfl ⟨by omega, by omega⟩ (fun h1 => ?_) (fun h1 => ?_)
  · refine x_bipush (pc' := 13) hE dX8_dayOf_11 rfl (by decide +kernel) ?_
    refine x_iret hE dX8_dayOf_13 ?_
    refine ⟨ri ?_, ?_⟩
    · first | (exfalso; omega) | skip
      first | ((unfold aDayOf dyN; rw [if_neg (show ¬ ¬ (0 ≤ d ∧ d ≤ 9999) by omega), if_pos (show 0 ≤ w ∧ w ≤ 3 by omega)]; subst_vars; simp_all; done)) | skip
      all_goals unfold aDayOf
      all_goals repeat' split
      all_goals first | rfl | omega | (exfalso; omega)
    · first | (exfalso; omega) | skip
      all_goals first | exact hC | (exfalso; omega) | (assumption)
  · refine x_iload_n (pc' := 5) hE dX8_dayOf_4 rfl rfl ?_
    refine x_sipush (pc' := 8) hE dX8_dayOf_5 rfl (by decide +kernel) ?_
    refine x_icmple (tgt := 14) (pc' := 11) hE dX8_dayOf_8 (by decide) rfl ⟨by omega, by omega⟩ ⟨by omega, by omega⟩ (fun h2 => ?_) (fun h2 => ?_)
    · refine x_iload_n (pc' := 15) hE dX8_dayOf_14 rfl rfl ?_
      rcases (show w = 0 ∨ w = 1 ∨ w = 2 ∨ w = 3 ∨ (w < 0 ∨ 3 < w) by omega) with h3 | h3 | h3 | h3 | h3
      · refine x_tabIn (tgt := 44) (off := 29) hE dX8_dayOf_15 ⟨by omega, by omega⟩ (by omega) (by omega) (by rw [h3]; rfl) (by decide) ?_
        refine x_iload_n (pc' := 45) hE dX8_dayOf_44 rfl rfl ?_
        refine x_bipush (pc' := 47) hE dX8_dayOf_45 rfl (by decide +kernel) ?_
        refine x_irem (pc' := 48) hE dX8_dayOf_47 rfl (by omega) (by omega) (by omega) (by omega) ?_
        refine x_iret hE dX8_dayOf_48 ?_
        refine ⟨ri ?_, ?_⟩
        · first | (exfalso; omega) | skip
          first | ((unfold aDayOf dyN; rw [if_neg (show ¬ ¬ (0 ≤ d ∧ d ≤ 9999) by omega), if_pos (show 0 ≤ w ∧ w ≤ 3 by omega)]; subst_vars; simp_all; done)) | skip
          all_goals unfold aDayOf
          all_goals repeat' split
          all_goals first | rfl | omega | (exfalso; omega)
        · first | (exfalso; omega) | skip
          all_goals first | exact hC | (exfalso; omega) | (assumption)
      · refine x_tabIn (tgt := 49) (off := 34) hE dX8_dayOf_15 ⟨by omega, by omega⟩ (by omega) (by omega) (by rw [h3]; rfl) (by decide) ?_
        refine x_iload_n (pc' := 50) hE dX8_dayOf_49 rfl rfl ?_
        refine x_cS1 (pc' := 53) hE hM (okC G) hl hR (c_X8_nameOfDay l G _ _ (by omega) (by omega)) kX8_nameOfDay tM_X8_72 (by decide) dX8_dayOf_50 rfl rfl (Nat.le_of_ble_eq_true rfl) (fun σ4 e4 => ?_)
        replace e4 := e4.symm
        subst e4
        refine x_iret hE dX8_dayOf_53 ?_
        refine ⟨ri ?_, ?_⟩
        · first | (exfalso; omega) | skip
          first | ((unfold aDayOf dyN; rw [if_neg (show ¬ ¬ (0 ≤ d ∧ d ≤ 9999) by omega), if_pos (show 0 ≤ w ∧ w ≤ 3 by omega)]; subst_vars; simp_all; done)) | skip
          all_goals unfold aDayOf
          all_goals repeat' split
          all_goals first | rfl | omega | (exfalso; omega)
        · first | (exfalso; omega) | skip
          all_goals first | exact hC | (exfalso; omega) | (assumption)
      · refine x_tabIn (tgt := 54) (off := 39) hE dX8_dayOf_15 ⟨by omega, by omega⟩ (by omega) (by omega) (by rw [h3]; rfl) (by decide) ?_
        refine x_aload_n (pc' := 55) hE dX8_dayOf_54 rfl rfl ?_
        refine g_X8_1 (pc' := 58) hE hM tF_X8_19 dX8_dayOf_55 rfl ?_
        refine x_iload_n (pc' := 59) hE dX8_dayOf_58 rfl rfl ?_
        refine x_cV1 (pc' := 62) hE hM (okC G) hl hR (c_X1_isFeast l G _ _ hRF _ (by omega) (by omega)) kX1_isFeast tM_X8_76 (rcv_X1 hM) (by decide) dX8_dayOf_59 rfl rfl (Nat.le_of_ble_eq_true rfl) (fun σ5 e5 => ?_)
        replace e5 := e5.symm
        subst e5
        refine x_ifeqB (tgt := 69) (pc' := 65) hE dX8_dayOf_62 (by decide) rfl (fun h6 => ?_) (fun h6 => ?_)
        · try simp only [decide_eq_true_eq, decide_eq_false_iff_not] at h6
          refine x_iconst (pc' := 70) hE dX8_dayOf_69 rfl ?_
          refine x_iret hE dX8_dayOf_70 ?_
          refine ⟨ri ?_, ?_⟩
          · first | (exfalso; omega) | skip
            first | ((unfold aDayOf dyN; rw [if_neg (show ¬ ¬ (0 ≤ d ∧ d ≤ 9999) by omega), if_pos (show 0 ≤ w ∧ w ≤ 3 by omega)]; subst_vars; simp_all; done)) | skip
            all_goals unfold aDayOf
            all_goals repeat' split
            all_goals first | rfl | omega | (exfalso; omega)
          · first | (exfalso; omega) | skip
            all_goals first | exact hC | (exfalso; omega) | (assumption)
        · try simp only [decide_eq_true_eq, decide_eq_false_iff_not] at h6
          refine x_iconst (pc' := 66) hE dX8_dayOf_65 rfl ?_
          refine x_goto (tgt := 70) hE dX8_dayOf_66 (by decide) ?_
          refine x_iret hE dX8_dayOf_70 ?_
          refine ⟨ri ?_, ?_⟩
          · first | (exfalso; omega) | skip
            first | ((unfold aDayOf dyN; rw [if_neg (show ¬ ¬ (0 ≤ d ∧ d ≤ 9999) by omega), if_pos (show 0 ≤ w ∧ w ≤ 3 by omega)]; subst_vars; simp_all; done)) | skip
            all_goals unfold aDayOf
            all_goals repeat' split
            all_goals first | rfl | omega | (exfalso; omega)
          · first | (exfalso; omega) | skip
            all_goals first | exact hC | (exfalso; omega) | (assumption)
      · refine x_tabIn (tgt := 71) (off := 56) hE dX8_dayOf_15 ⟨by omega, by omega⟩ (by omega) (by omega) (by rw [h3]; rfl) (by decide) ?_
        refine x_iload_n (pc' := 72) hE dX8_dayOf_71 rfl rfl ?_
        refine x_bipush (pc' := 74) hE dX8_dayOf_72 rfl (by decide +kernel) ?_
        refine x_idiv (pc' := 75) hE dX8_dayOf_74 rfl (by omega) (by omega) (by omega) (by omega) ?_
        refine x_iret hE dX8_dayOf_75 ?_
        refine ⟨ri ?_, ?_⟩
        · first | (exfalso; omega) | skip
          first | ((unfold aDayOf dyN; rw [if_neg (show ¬ ¬ (0 ≤ d ∧ d ≤ 9999) by omega), if_pos (show 0 ≤ w ∧ w ≤ 3 by omega)]; subst_vars; simp_all; done)) | skip
          all_goals unfold aDayOf
          all_goals repeat' split
          all_goals first | rfl | omega | (exfalso; omega)
        · first | (exfalso; omega) | skip
          all_goals first | exact hC | (exfalso; omega) | (assumption)
      · refine x_tabOut (tgt := 76) hE dX8_dayOf_15 ⟨by omega, by omega⟩ (by omega) (by decide) ?_
        refine x_bipush (pc' := 78) hE dX8_dayOf_76 rfl (by decide +kernel) ?_
        refine x_iret hE dX8_dayOf_78 ?_
        refine ⟨ri ?_, ?_⟩
        · first | (exfalso; omega) | skip
          first | ((unfold aDayOf dyN; rw [if_neg (show ¬ ¬ (0 ≤ d ∧ d ≤ 9999) by omega), if_pos (show 0 ≤ w ∧ w ≤ 3 by omega)]; subst_vars; simp_all; done)) | skip
          all_goals unfold aDayOf
          all_goals repeat' split
          all_goals first | rfl | omega | (exfalso; omega)
        · first | (exfalso; omega) | skip
          all_goals first | exact hC | (exfalso; omega) | (assumption)
    · refine x_bipush (pc' := 13) hE dX8_dayOf_11 rfl (by decide +kernel) ?_
      refine x_iret hE dX8_dayOf_13 ?_
      refine ⟨ri ?_, ?_⟩
      · first | (exfalso; omega) | skip
        first | ((unfold aDayOf dyN; rw [if_neg (show ¬ ¬ (0 ≤ d ∧ d ≤ 9999) by omega), if_pos (show 0 ≤ w ∧ w ≤ 3 by omega)]; subst_vars; simp_all; done)) | skip
        all_goals unfold aDayOf
        all_goals repeat' split
        all_goals first | rfl | omega | (exfalso; omega)
      · first | (exfalso; omega) | skip
        all_goals first | exact hC | (exfalso; omega) | (assumption)
set_option maxHeartbeats 4000000 in
set_option maxRecDepth 10000 in
theorem c_X8_about (l : Launch) (G : GC) (σ : St) (τ : St) (B : Int) (hI : IM B τ) (hC : RC σ τ) (hB : B ≤ 800000) (p : Int) (hp : inR p) (w : Int) (hw : inR w) : Ct l (YC G) yX8_about (.code yX8_about cX8_about 4 (some .int)) 3 [.ref (aC G 0 0 0), .int (iN p), .int (iN w)] σ (fun v σ' => v = some (.int (iN (aAbout τ p w))) ∧ RC σ' τ) := by
  refine Ct_of (own := RX8) [some (.ref (aC G 0 0 0)), some (.int (iN p)), some (.int (iN w)), none] rfl rfl (Nat.le_of_ble_eq_true rfl) rfl ?_
  intro E hE hM hl hR
  obtain ⟨hW, hF, hrd, hak, hpl, hpg, hwt, hfr, hsn, hso, hce, hkp, hkk⟩ := id hI
  obtain ⟨hnp, hnf, hday, hpp, hff, hcc⟩ := WT_of hW
  obtain ⟨cP, ⟨cN, hRF⟩, hRW, cS, cI, cK, cR, cA⟩ := id hC
  obtain ⟨r1, r2, r3, r4, r5, r6, r7⟩ := id hRW
  obtain ⟨p1, p2⟩ := id cP
  have w00 : wv τ 0 0 = τ 0 0 0 5 := rfl
  have w01 : wv τ 0 1 = τ 0 0 0 9 := rfl
  have w02 : wv τ 0 2 = τ 0 0 0 3 := rfl
  obtain ⟨p1, p2⟩ := hp
  obtain ⟨w1, w2⟩ := hw
  refine x_aload_n (pc' := 1) hE dX8_about_0 rfl rfl ?_
  refine g_X8_2 (pc' := 4) hE hM tF_X8_26 dX8_about_1 rfl ?_
  refine x_iload_n (pc' := 5) hE dX8_about_4 rfl rfl ?_
  refine x_cV1 (pc' := 8) hE hM (okC G) hl hR (c_X7_hasPack l G _ _ (by omega) _ _ (by assumption) (by assumption) (by omega) _ ⟨by omega, by omega⟩) kX7_hasPack tM_X8_107 (rcv_X7 (by omega) hM) (by decide) dX8_about_5 rfl rfl (Nat.le_of_ble_eq_true rfl) (fun σ1 e1 => ?_)
  replace e1 := e1.symm
  subst e1
  refine x_ifneB (tgt := 14) (pc' := 11) hE dX8_about_8 (by decide) rfl (fun h2 => ?_) (fun h2 => ?_)
  · try simp only [decide_eq_true_eq, decide_eq_false_iff_not] at h2
    have q1 := r5 p (by omega) (by omega)
    have q2 := hpp p (by omega) (by omega)
    have q3 : wv τ 1 p = τ 3 0 0 p := rfl
    have q4 : wv τ 2 p = τ 4 0 0 p := rfl
    have q5 : wv τ 3 p = τ 5 0 0 p := rfl
    have q6 := hcc (τ 4 0 0 p) (by omega) (by omega)
    have q7 : wv τ 7 (wv τ 2 p) = τ 2 0 0 (τ 4 0 0 p) := rfl
    have q8 := rdB_bd (k := wv τ 1 p) (f := wv τ 7 (wv τ 2 p)) (g := wv τ 3 p) (d := wv τ 0 2) (by omega) (by omega) (by omega)
    refine x_aload_n (pc' := 15) hE dX8_about_14 rfl rfl ?_
    refine g_X8_2 (pc' := 18) hE hM tF_X8_26 dX8_about_15 rfl ?_
    refine gN_X7_0 (pc' := 21) (by omega) hE hM (fun _ h => nF_X8_93 h) dX8_about_18 rfl ?_
    refine x_iload_n (pc' := 22) hE dX8_about_21 rfl rfl ?_
    refine aC_7 (pc' := 23) (by omega) hE hM (by omega) (by omega) dX8_about_22 rfl ?_
    refine x_astore_n (pc' := 24) hE dX8_about_23 rfl (by decide) rfl rfl ?_
    dsimp only [List.set]
    refine x_iload_n (pc' := 25) hE dX8_about_24 rfl rfl ?_
    rcases (show w = 0 ∨ w = 1 ∨ w = 2 ∨ w = 3 ∨ w = 4 ∨ w = 5 ∨ w = 6 ∨ (w < 0 ∨ 6 < w) by omega) with h3 | h3 | h3 | h3 | h3 | h3 | h3 | h3
    · refine x_tabIn (tgt := 68) (off := 43) hE dX8_about_25 ⟨by omega, by omega⟩ (by omega) (by omega) (by rw [h3]; rfl) (by decide) ?_
      refine x_aload_n (pc' := 69) hE dX8_about_68 rfl rfl ?_
      refine gN_X4_0 (pc' := 72) (by omega) (by omega) (by omega) hE hM (fun _ h => nF_X8_110 h) dX8_about_69 rfl ?_
      refine kg_0 (pc' := 75) (by omega) (by omega) hE hM (fun _ h => nF_X8_114 h) dX8_about_72 rfl ?_
      refine x_iret hE dX8_about_75 ?_
      refine ⟨ri ?_, ?_⟩
      · first | (exfalso; omega) | skip
        first | ((unfold aAbout pkN; rw [if_neg (show ¬ nPk τ p by omega), if_pos (show 0 ≤ w ∧ w ≤ 6 by omega)]; subst_vars; first | (simp; omega) | (simp; done) | (simp only [fsB_r]; rw [q1.1] at *; simp_all; done))) | skip
        all_goals unfold aAbout
        all_goals repeat' split
        all_goals first | rfl | omega | (exfalso; omega)
      · first | (exfalso; omega) | skip
        all_goals first | exact hC | (exfalso; omega) | (assumption)
    · refine x_tabIn (tgt := 76) (off := 51) hE dX8_about_25 ⟨by omega, by omega⟩ (by omega) (by omega) (by rw [h3]; rfl) (by decide) ?_
      refine x_aload_n (pc' := 77) hE dX8_about_76 rfl rfl ?_
      refine gN_X4_1 (pc' := 80) (by omega) (by omega) (by omega) hE hM (fun _ h => nF_X8_117 h) dX8_about_77 rfl ?_
      refine x_iret hE dX8_about_80 ?_
      refine ⟨ri ?_, ?_⟩
      · first | (exfalso; omega) | skip
        first | ((unfold aAbout pkN; rw [if_neg (show ¬ nPk τ p by omega), if_pos (show 0 ≤ w ∧ w ≤ 6 by omega)]; subst_vars; first | (simp; omega) | (simp; done) | (simp only [fsB_r]; rw [q1.1] at *; simp_all; done))) | skip
        all_goals unfold aAbout
        all_goals repeat' split
        all_goals first | rfl | omega | (exfalso; omega)
      · first | (exfalso; omega) | skip
        all_goals first | exact hC | (exfalso; omega) | (assumption)
    · refine x_tabIn (tgt := 81) (off := 56) hE dX8_about_25 ⟨by omega, by omega⟩ (by omega) (by omega) (by rw [h3]; rfl) (by decide) ?_
      refine x_aload_n (pc' := 82) hE dX8_about_81 rfl rfl ?_
      refine gN_X4_2 (pc' := 85) (by omega) (by omega) (by omega) hE hM (fun _ h => nF_X8_120 h) dX8_about_82 rfl ?_
      refine x_iret hE dX8_about_85 ?_
      refine ⟨ri ?_, ?_⟩
      · first | (exfalso; omega) | skip
        first | ((unfold aAbout pkN; rw [if_neg (show ¬ nPk τ p by omega), if_pos (show 0 ≤ w ∧ w ≤ 6 by omega)]; subst_vars; first | (simp; omega) | (simp; done) | (simp only [fsB_r]; rw [q1.1] at *; simp_all; done))) | skip
        all_goals unfold aAbout
        all_goals repeat' split
        all_goals first | rfl | omega | (exfalso; omega)
      · first | (exfalso; omega) | skip
        all_goals first | exact hC | (exfalso; omega) | (assumption)
    · refine x_tabIn (tgt := 86) (off := 61) hE dX8_about_25 ⟨by omega, by omega⟩ (by omega) (by omega) (by rw [h3]; rfl) (by decide) ?_
      refine x_aload_n (pc' := 87) hE dX8_about_86 rfl rfl ?_
      refine g_X8_2 (pc' := 90) hE hM tF_X8_26 dX8_about_87 rfl ?_
      refine x_aload_n (pc' := 91) hE dX8_about_90 rfl rfl ?_
      refine x_cV1 (pc' := 94) hE hM (okC G) hl hR (c_X7_readBy l G _ _ (by omega) _ _ hRW hW (by omega) _ (by omega) (by omega)) kX7_readBy tM_X8_123 (rcv_X7 (by omega) hM) (by decide) dX8_about_91 rfl rfl (Nat.le_of_ble_eq_true rfl) (fun σ4 e4 => ?_)
      replace e4 := e4.symm
      subst e4
      refine x_iret hE dX8_about_94 ?_
      refine ⟨ri ?_, ?_⟩
      · first | (exfalso; omega) | skip
        first | ((unfold aAbout pkN; rw [if_neg (show ¬ nPk τ p by omega), if_pos (show 0 ≤ w ∧ w ≤ 6 by omega)]; subst_vars; first | (simp; omega) | (simp; done) | (simp only [fsB_r]; rw [q1.1] at *; simp_all; done))) | skip
        all_goals unfold aAbout
        all_goals repeat' split
        all_goals first | rfl | omega | (exfalso; omega)
      · first | (exfalso; omega) | skip
        all_goals first | exact hC | (exfalso; omega) | (assumption)
    · refine x_tabIn (tgt := 95) (off := 70) hE dX8_about_25 ⟨by omega, by omega⟩ (by omega) (by omega) (by rw [h3]; rfl) (by decide) ?_
      refine x_aload_n (pc' := 96) hE dX8_about_95 rfl rfl ?_
      refine gN_X4_0 (pc' := 99) (by omega) (by omega) (by omega) hE hM (fun _ h => nF_X8_110 h) dX8_about_96 rfl ?_
      refine x_aload_n (pc' := 100) hE dX8_about_99 rfl rfl ?_
      refine g_X8_2 (pc' := 103) hE hM tF_X8_26 dX8_about_100 rfl ?_
      refine x_aload_n (pc' := 104) hE dX8_about_103 rfl rfl ?_
      refine x_cV1 (pc' := 107) hE hM (okC G) hl hR (c_X7_readBy l G _ _ (by omega) _ _ hRW hW (by omega) _ (by omega) (by omega)) kX7_readBy tM_X8_123 (rcv_X7 (by omega) hM) (by decide) dX8_about_104 rfl rfl (Nat.le_of_ble_eq_true rfl) (fun σ5 e5 => ?_)
      replace e5 := e5.symm
      subst e5
      refine x_aload_n (pc' := 108) hE dX8_about_107 rfl rfl ?_
      refine g_X8_1 (pc' := 111) hE hM tF_X8_19 dX8_about_108 rfl ?_
      refine x_cV1 (pc' := 114) hE hM (okC G) hl hR (c_X3_fastsOn l G _ _ hRF _ _ (by omega) (by omega) (by omega) (by omega)) kX3_fastsOn tM_X8_127 (rcvK (by omega) (by omega) hM) (by decide) dX8_about_111 rfl rfl (Nat.le_of_ble_eq_true rfl) (fun σ6 e6 => ?_)
      replace e6 := e6.symm
      subst e6
      refine x_ifeqB (tgt := 121) (pc' := 117) hE dX8_about_114 (by decide) rfl (fun h7 => ?_) (fun h7 => ?_)
      · try simp only [decide_eq_true_eq, decide_eq_false_iff_not] at h7
        refine x_iconst (pc' := 122) hE dX8_about_121 rfl ?_
        refine x_iret hE dX8_about_122 ?_
        refine ⟨ri ?_, ?_⟩
        · first | (exfalso; omega) | skip
          first | ((unfold aAbout pkN; rw [if_neg (show ¬ nPk τ p by omega), if_pos (show 0 ≤ w ∧ w ≤ 6 by omega)]; subst_vars; first | (simp; omega) | (simp; done) | (simp only [fsB_r]; rw [q1.1] at *; simp_all; done))) | skip
          all_goals unfold aAbout
          all_goals repeat' split
          all_goals first | rfl | omega | (exfalso; omega)
        · first | (exfalso; omega) | skip
          all_goals first | exact hC | (exfalso; omega) | (assumption)
      · try simp only [decide_eq_true_eq, decide_eq_false_iff_not] at h7
        refine x_iconst (pc' := 118) hE dX8_about_117 rfl ?_
        refine x_goto (tgt := 122) hE dX8_about_118 (by decide) ?_
        refine x_iret hE dX8_about_122 ?_
        refine ⟨ri ?_, ?_⟩
        · first | (exfalso; omega) | skip
          first | ((unfold aAbout pkN; rw [if_neg (show ¬ nPk τ p by omega), if_pos (show 0 ≤ w ∧ w ≤ 6 by omega)]; subst_vars; first | (simp; omega) | (simp; done) | (simp only [fsB_r]; rw [q1.1] at *; simp_all; done))) | skip
          all_goals unfold aAbout
          all_goals repeat' split
          all_goals first | rfl | omega | (exfalso; omega)
        · first | (exfalso; omega) | skip
          all_goals first | exact hC | (exfalso; omega) | (assumption)
    · refine x_tabIn (tgt := 123) (off := 98) hE dX8_about_25 ⟨by omega, by omega⟩ (by omega) (by omega) (by rw [h3]; rfl) (by decide) ?_
      refine x_aload_n (pc' := 124) hE dX8_about_123 rfl rfl ?_
      refine g_X8_2 (pc' := 127) hE hM tF_X8_26 dX8_about_124 rfl ?_
      refine x_aload_n (pc' := 128) hE dX8_about_127 rfl rfl ?_
      refine x_aload_n (pc' := 129) hE dX8_about_128 rfl rfl ?_
      refine g_X8_1 (pc' := 132) hE hM tF_X8_19 dX8_about_129 rfl ?_
      refine x_cV1 (pc' := 135) hE hM (okC G) hl hR (c_X7_preyOf l G _ _ (by omega) _ _ hRW hW (by omega) _ hRF _ (by omega) (by omega)) kX7_preyOf tM_X8_131 (rcv_X7 (by omega) hM) (by decide) dX8_about_132 rfl rfl (Nat.le_of_ble_eq_true rfl) (fun σ8 e8 => ?_)
      replace e8 := e8.symm
      subst e8
      refine x_iret hE dX8_about_135 ?_
      refine ⟨ri ?_, ?_⟩
      · first | (exfalso; omega) | skip
        first | ((unfold aAbout pkN; rw [if_neg (show ¬ nPk τ p by omega), if_pos (show 0 ≤ w ∧ w ≤ 6 by omega)]; subst_vars; first | (simp; omega) | (simp; done) | (simp only [fsB_r]; rw [q1.1] at *; simp_all; done))) | skip
        all_goals unfold aAbout
        all_goals repeat' split
        all_goals first | rfl | omega | (exfalso; omega)
      · first | (exfalso; omega) | skip
        all_goals first | exact hC | (exfalso; omega) | (assumption)
    · refine x_tabIn (tgt := 136) (off := 111) hE dX8_about_25 ⟨by omega, by omega⟩ (by omega) (by omega) (by rw [h3]; rfl) (by decide) ?_
      refine x_aload_n (pc' := 137) hE dX8_about_136 rfl rfl ?_
      refine g_X8_2 (pc' := 140) hE hM tF_X8_26 dX8_about_137 rfl ?_
      refine x_iload_n (pc' := 141) hE dX8_about_140 rfl rfl ?_
      refine x_cV1 (pc' := 144) hE hM (okC G) hl hR (c_X7_eatenBy l G _ _ (by omega) _ _ (by assumption) (by assumption) (by omega) _ (by omega) (by omega)) kX7_eatenBy tM_X8_135 (rcv_X7 (by omega) hM) (by decide) dX8_about_141 rfl rfl (Nat.le_of_ble_eq_true rfl) (fun σ9 e9 => ?_)
      replace e9 := e9.symm
      subst e9
      refine x_iret hE dX8_about_144 ?_
      refine ⟨ri ?_, ?_⟩
      · first | (exfalso; omega) | skip
        first | ((unfold aAbout pkN; rw [if_neg (show ¬ nPk τ p by omega), if_pos (show 0 ≤ w ∧ w ≤ 6 by omega)]; subst_vars; first | (simp; omega) | (simp; done) | (simp only [fsB_r]; rw [q1.1] at *; simp_all; done))) | skip
        all_goals unfold aAbout
        all_goals repeat' split
        all_goals first | rfl | omega | (exfalso; omega)
      · first | (exfalso; omega) | skip
        all_goals first | exact hC | (exfalso; omega) | (assumption)
    · refine x_tabOut (tgt := 145) hE dX8_about_25 ⟨by omega, by omega⟩ (by omega) (by decide) ?_
      refine x_bipush (pc' := 147) hE dX8_about_145 rfl (by decide +kernel) ?_
      refine x_iret hE dX8_about_147 ?_
      refine ⟨ri ?_, ?_⟩
      · first | (exfalso; omega) | skip
        first | ((unfold aAbout pkN; rw [if_neg (show ¬ nPk τ p by omega), if_pos (show 0 ≤ w ∧ w ≤ 6 by omega)]; subst_vars; first | (simp; omega) | (simp; done) | (simp only [fsB_r]; rw [q1.1] at *; simp_all; done))) | skip
        all_goals unfold aAbout
        all_goals repeat' split
        all_goals first | rfl | omega | (exfalso; omega)
      · first | (exfalso; omega) | skip
        all_goals first | exact hC | (exfalso; omega) | (assumption)
  · try simp only [decide_eq_true_eq, decide_eq_false_iff_not] at h2
    refine x_bipush (pc' := 13) hE dX8_about_11 rfl (by decide +kernel) ?_
    refine x_iret hE dX8_about_13 ?_
    refine ⟨ri ?_, ?_⟩
    · first | (exfalso; omega) | skip
      first | ((unfold aAbout pkN; rw [if_neg (show ¬ nPk τ p by omega), if_pos (show 0 ≤ w ∧ w ≤ 6 by omega)]; subst_vars; first | (simp; omega) | (simp; done) | (simp only [fsB_r]; rw [q1.1] at *; simp_all; done))) | skip
      all_goals unfold aAbout
      all_goals repeat' split
      all_goals first | rfl | omega | (exfalso; omega)
    · first | (exfalso; omega) | skip
      all_goals first | exact hC | (exfalso; omega) | (assumption)
set_option maxHeartbeats 4000000 in
set_option maxRecDepth 10000 in
theorem c_X8_as (l : Launch) (G : GC) (σ : St) (τ : St) (B : Int) (hI : IM B τ) (hC : RC σ τ) (hB : B ≤ 800000) (p : Int) (hp : inR p) (k : Int) (hk : inR k) : Ct l (YC G) yX8_as (.code yX8_as cX8_as 3 (some .int)) 1 [.ref (aC G 0 0 0), .int (iN p), .int (iN k)] σ (fun v σ' => v = some (.int (iN (aAs τ p k))) ∧ RC σ' τ) := by
  refine Ct_of (own := RX8) [some (.ref (aC G 0 0 0)), some (.int (iN p)), some (.int (iN k))] rfl rfl (Nat.le_of_ble_eq_true rfl) rfl ?_
  intro E hE hM hl hR
  obtain ⟨hW, hF, hrd, hak, hpl, hpg, hwt, hfr, hsn, hso, hce, hkp, hkk⟩ := id hI
  obtain ⟨hnp, hnf, hday, hpp, hff, hcc⟩ := WT_of hW
  obtain ⟨cP, ⟨cN, hRF⟩, hRW, cS, cI, cK, cR, cA⟩ := id hC
  obtain ⟨r1, r2, r3, r4, r5, r6, r7⟩ := id hRW
  obtain ⟨p1, p2⟩ := id cP
  have w00 : wv τ 0 0 = τ 0 0 0 5 := rfl
  have w01 : wv τ 0 1 = τ 0 0 0 9 := rfl
  have w02 : wv τ 0 2 = τ 0 0 0 3 := rfl
  obtain ⟨p1, p2⟩ := hp
  obtain ⟨k1, k2⟩ := hk
  refine x_aload_n (pc' := 1) hE dX8_as_0 rfl rfl ?_
  refine g_X8_2 (pc' := 4) hE hM tF_X8_26 dX8_as_1 rfl ?_
  refine x_iload_n (pc' := 5) hE dX8_as_4 rfl rfl ?_
  refine x_cV1 (pc' := 8) hE hM (okC G) hl hR (c_X7_hasPack l G _ _ (by omega) _ _ (by assumption) (by assumption) (by omega) _ ⟨by omega, by omega⟩) kX7_hasPack tM_X8_107 (rcv_X7 (by omega) hM) (by decide) dX8_as_5 rfl rfl (Nat.le_of_ble_eq_true rfl) (fun σ1 e1 => ?_)
  replace e1 := e1.symm
  subst e1
  refine x_ifneB (tgt := 14) (pc' := 11) hE dX8_as_8 (by decide) rfl (fun h2 => ?_) (fun h2 => ?_)
  · try simp only [decide_eq_true_eq, decide_eq_false_iff_not] at h2
    refine x_iload_n (pc' := 15) hE dX8_as_14 rfl rfl ?_
    refine x_cS1 (pc' := 18) hE hM (okC G) hl hR (c_X8_isKind l G _ _ ⟨by omega, by omega⟩) kX8_isKind tM_X8_87 (by decide) dX8_as_15 rfl rfl (Nat.le_of_ble_eq_true rfl) (fun σ3 e3 => ?_)
    replace e3 := e3.symm
    subst e3
    refine x_ifneB (tgt := 24) (pc' := 21) hE dX8_as_18 (by decide) rfl (fun h4 => ?_) (fun h4 => ?_)
    · try simp only [decide_eq_true_eq, decide_eq_false_iff_not] at h4
      have q1 := r5 p (by omega) (by omega)
      have q2 := hpp p (by omega) (by omega)
      have q3 : wv τ 1 p = τ 3 0 0 p := rfl
      have q4 : wv τ 2 p = τ 4 0 0 p := rfl
      have q5 : wv τ 3 p = τ 5 0 0 p := rfl
      have q6 := hcc (τ 4 0 0 p) (by omega) (by omega)
      have q7 : wv τ 7 (wv τ 2 p) = τ 2 0 0 (τ 4 0 0 p) := rfl
      have q8 := rdB_bd (k := wv τ 1 p) (f := wv τ 7 (wv τ 2 p)) (g := wv τ 3 p) (d := wv τ 0 2) (by omega) (by omega) (by omega)
      refine x_aload_n (pc' := 25) hE dX8_as_24 rfl rfl ?_
      refine g_X8_2 (pc' := 28) hE hM tF_X8_26 dX8_as_25 rfl ?_
      refine gN_X7_0 (pc' := 31) (by omega) hE hM (fun _ h => nF_X8_93 h) dX8_as_28 rfl ?_
      refine x_iload_n (pc' := 32) hE dX8_as_31 rfl rfl ?_
      refine aC_7 (pc' := 33) (by omega) hE hM (by omega) (by omega) dX8_as_32 rfl ?_
      refine gN_X4_0 (pc' := 36) (by omega) (by omega) (by omega) hE hM (fun _ h => nF_X8_110 h) dX8_as_33 rfl ?_
      refine x_kinds (pc' := 39) hE hM tF_X8_97 dX8_as_36 rfl ?_
      refine x_iload_n (pc' := 40) hE dX8_as_39 rfl rfl ?_
      refine x_kald (pc' := 41) hE hM (by omega) (by omega) dX8_as_40 rfl ?_
      refine x_cV1 (pc' := 44) hE hM (okC G) hl hR (c_X3_isSuch l G _ _ _ (by omega) (by omega) (by omega) (by omega)) kX3_isSuch tM_X8_138 (rcvK (by omega) (by omega) hM) (by decide) dX8_as_41 rfl rfl (Nat.le_of_ble_eq_true rfl) (fun σ5 e5 => ?_)
      replace e5 := e5.symm
      subst e5
      refine x_ifeqB (tgt := 51) (pc' := 47) hE dX8_as_44 (by decide) rfl (fun h6 => ?_) (fun h6 => ?_)
      · try simp only [decide_eq_true_eq, decide_eq_false_iff_not] at h6
        refine x_iconst (pc' := 52) hE dX8_as_51 rfl ?_
        refine x_iret hE dX8_as_52 ?_
        refine ⟨ri ?_, ?_⟩
        · first | (exfalso; omega) | skip
          all_goals unfold aAs
          all_goals repeat' split
          all_goals first | rfl | omega | (exfalso; omega)
        · first | (exfalso; omega) | skip
          all_goals first | exact hC | (exfalso; omega) | (assumption)
      · try simp only [decide_eq_true_eq, decide_eq_false_iff_not] at h6
        refine x_iload_n (pc' := 48) hE dX8_as_47 rfl rfl ?_
        refine x_goto (tgt := 52) hE dX8_as_48 (by decide) ?_
        refine x_iret hE dX8_as_52 ?_
        refine ⟨ri ?_, ?_⟩
        · first | (exfalso; omega) | skip
          all_goals unfold aAs
          all_goals repeat' split
          all_goals first | rfl | omega | (exfalso; omega)
        · first | (exfalso; omega) | skip
          all_goals first | exact hC | (exfalso; omega) | (assumption)
    · try simp only [decide_eq_true_eq, decide_eq_false_iff_not] at h4
      refine x_bipush (pc' := 23) hE dX8_as_21 rfl (by decide +kernel) ?_
      refine x_iret hE dX8_as_23 ?_
      refine ⟨ri ?_, ?_⟩
      · first | (exfalso; omega) | skip
        all_goals unfold aAs
        all_goals repeat' split
        all_goals first | rfl | omega | (exfalso; omega)
      · first | (exfalso; omega) | skip
        all_goals first | exact hC | (exfalso; omega) | (assumption)
  · try simp only [decide_eq_true_eq, decide_eq_false_iff_not] at h2
    refine x_bipush (pc' := 13) hE dX8_as_11 rfl (by decide +kernel) ?_
    refine x_iret hE dX8_as_13 ?_
    refine ⟨ri ?_, ?_⟩
    · first | (exfalso; omega) | skip
      all_goals unfold aAs
      all_goals repeat' split
      all_goals first | rfl | omega | (exfalso; omega)
    · first | (exfalso; omega) | skip
      all_goals first | exact hC | (exfalso; omega) | (assumption)
