set_option maxHeartbeats 4000000 in
set_option maxRecDepth 10000 in
theorem c_X8_blank (l : Launch) (G : GC) (σ : St) (τ : St) (B : Int) (hI : IM B τ) (hC : RC σ τ) (hB : B ≤ 800000) : Ct l (YC G) yX8_blank (.code yX8_blank cX8_blank 2 (some .int)) 1 [.ref (aC G 0 0 0)] σ (fun v σ' => v = some (.int (iN (aBlank τ))) ∧ RC σ' (sBlank τ)) := by
  refine Ct_of (own := RX8) [some (.ref (aC G 0 0 0)), none] rfl rfl (Nat.le_of_ble_eq_true rfl) rfl ?_
  intro E hE hM hl hR
  obtain ⟨hW, hF, hrd, hak, hpl, hpg, hwt, hfr, hsn, hso, hce, hkp, hkk⟩ := id hI
  obtain ⟨hnp, hnf, hday, hpp, hff, hcc⟩ := WT_of hW
  obtain ⟨cP, ⟨cN, hRF⟩, hRW, cS, cI, cK, cR, cA⟩ := id hC
  obtain ⟨r1, r2, r3, r4, r5, r6, r7⟩ := id hRW
  obtain ⟨p1, p2⟩ := id cP
  have w00 : wv τ 0 0 = τ 0 0 0 5 := rfl
  have w01 : wv τ 0 1 = τ 0 0 0 9 := rfl
  have w02 : wv τ 0 2 = τ 0 0 0 3 := rfl
  refine x_aload_n (pc' := 1) hE dX8_blank_0 rfl rfl ?_
  refine g_X8_0 (pc' := 4) hE hM tF_X8_12 dX8_blank_1 rfl ?_
  refine gN_X5_1 (pc' := 7) hE hM (fun _ h => nF_X8_47 h) dX8_blank_4 rfl ?_
  rw [p1]
  refine x_istore_n (pc' := 8) hE dX8_blank_7 rfl (by decide) rfl rfl ?_
  dsimp only [List.set]
  refine x_aload_n (pc' := 9) hE dX8_blank_8 rfl rfl ?_
  refine g_X8_0 (pc' := 12) hE hM tF_X8_12 dX8_blank_9 rfl ?_
  refine x_cV0 (pc' := 15) hE hM (okC G) hl hR (c_X5_clear l G _) kX5_clear tM_X8_51 (rcv_X5 hM) (by decide) dX8_blank_12 rfl rfl (Nat.le_of_ble_eq_true rfl) (fun σ1 e1 => ?_)
  replace e1 := e1.symm
  subst e1
  refine x_iload_n (pc' := 16) hE dX8_blank_15 rfl rfl ?_
  refine x_iret hE dX8_blank_16 ?_
  refine ⟨ri ?_, ?_⟩
  · first | (exfalso; omega) | skip
    all_goals unfold aBlank
    all_goals repeat' split
    all_goals first | rfl | omega | (exfalso; omega)
  · first | (exfalso; omega) | skip
    all_goals first | exact hC | (exfalso; omega) | (exact RC_blank hC)
set_option maxHeartbeats 4000000 in
set_option maxRecDepth 10000 in
theorem c_X8_fault (l : Launch) (G : GC) (σ : St) (τ : St) (B : Int) (hI : IM B τ) (hC : RC σ τ) (hB : B ≤ 800000) : Ct l (YC G) yX8_fault (.code yX8_fault cX8_fault 1 (some .int)) 3 [.ref (aC G 0 0 0)] σ (fun v σ' => v = some (.int (iN (aFault τ))) ∧ RC σ' τ) := by
  refine Ct_of (own := RX8) [some (.ref (aC G 0 0 0))] rfl rfl (Nat.le_of_ble_eq_true rfl) rfl ?_
  intro E hE hM hl hR
  obtain ⟨hW, hF, hrd, hak, hpl, hpg, hwt, hfr, hsn, hso, hce, hkp, hkk⟩ := id hI
  obtain ⟨hnp, hnf, hday, hpp, hff, hcc⟩ := WT_of hW
  obtain ⟨cP, ⟨cN, hRF⟩, hRW, cS, cI, cK, cR, cA⟩ := id hC
  obtain ⟨r1, r2, r3, r4, r5, r6, r7⟩ := id hRW
  obtain ⟨p1, p2⟩ := id cP
  have w00 : wv τ 0 0 = τ 0 0 0 5 := rfl
  have w01 : wv τ 0 1 = τ 0 0 0 9 := rfl
  have w02 : wv τ 0 2 = τ 0 0 0 3 := rfl
  refine x_aload_n (pc' := 1) hE dX8_fault_0 rfl rfl ?_
  refine g_X8_0 (pc' := 4) hE hM tF_X8_12 dX8_fault_1 rfl ?_
  refine x_cV1 (pc' := 7) hE hM (okC G) hl hR (c_X5_firstFault l G _ _ _ cP (by omega) hpg) kX5_firstFault tM_X8_54 (rcv_X5 hM) (by decide) dX8_fault_4 rfl rfl (Nat.le_of_ble_eq_true rfl) (fun σ1 e1 => ?_)
  replace e1 := e1.symm
  subst e1
  refine x_iret hE dX8_fault_7 ?_
  refine ⟨ri ?_, ?_⟩
  · first | (exfalso; omega) | skip
    all_goals unfold aFault
    all_goals repeat' split
    all_goals first | rfl | omega | (exfalso; omega)
  · first | (exfalso; omega) | skip
    all_goals first | exact hC | (exfalso; omega) | (assumption)
set_option maxHeartbeats 4000000 in
set_option maxRecDepth 10000 in
theorem c_X8_forge (l : Launch) (G : GC) (σ : St) (τ : St) (B : Int) (hI : IM B τ) (hC : RC σ τ) (hB : B ≤ 800000) (c : Int) (hc : inR c) (d : Int) (hd : inR d) : Ct l (YC G) yX8_forge (.code yX8_forge cX8_forge 4 (some .int)) 1 [.ref (aC G 0 0 0), .int (iN c), .int (iN d)] σ (fun v σ' => v = some (.int (iN (aForge τ c d))) ∧ RC σ' (sForge τ c d)) := by
  refine Ct_of (own := RX8) [some (.ref (aC G 0 0 0)), some (.int (iN c)), some (.int (iN d)), none] rfl rfl (Nat.le_of_ble_eq_true rfl) rfl ?_
  intro E hE hM hl hR
  obtain ⟨hW, hF, hrd, hak, hpl, hpg, hwt, hfr, hsn, hso, hce, hkp, hkk⟩ := id hI
  obtain ⟨hnp, hnf, hday, hpp, hff, hcc⟩ := WT_of hW
  obtain ⟨cP, ⟨cN, hRF⟩, hRW, cS, cI, cK, cR, cA⟩ := id hC
  obtain ⟨r1, r2, r3, r4, r5, r6, r7⟩ := id hRW
  obtain ⟨p1, p2⟩ := id cP
  have w00 : wv τ 0 0 = τ 0 0 0 5 := rfl
  have w01 : wv τ 0 1 = τ 0 0 0 9 := rfl
  have w02 : wv τ 0 2 = τ 0 0 0 3 := rfl
  obtain ⟨c1, c2⟩ := hc
  obtain ⟨d1, d2⟩ := hd
  refine x_iload_n (pc' := 1) hE dX8_forge_0 rfl rfl ?_
  refine x_cS1 (pc' := 4) hE hM (okC G) hl hR (c_X8_isCell l G _ _ ⟨by omega, by omega⟩) kX8_isCell tM_X8_80 (by decide) dX8_forge_1 rfl rfl (Nat.le_of_ble_eq_true rfl) (fun σ1 e1 => ?_)
  replace e1 := e1.symm
  subst e1
  refine x_ifneB (tgt := 10) (pc' := 7) hE dX8_forge_4 (by decide) rfl (fun h2 => ?_) (fun h2 => ?_)
  · try simp only [decide_eq_true_eq, decide_eq_false_iff_not] at h2
    refine x_iload_n (pc' := 11) hE dX8_forge_10 rfl rfl ?_
    refine x_iflt (tgt := 20) (pc' := 14) hE dX8_forge_11 (by decide) rfl ⟨by omega, by omega⟩ (fun h3 => ?_) (fun h3 => ?_)
    · refine x_bipush (pc' := 22) hE dX8_forge_20 rfl (by decide +kernel) ?_
      refine x_iret hE dX8_forge_22 ?_
      refine ⟨ri ?_, ?_⟩
      · first | (exfalso; omega) | skip
        all_goals unfold aForge
        all_goals repeat' split
        all_goals first | rfl | omega | (exfalso; omega)
      · first | (exfalso; omega) | skip
        all_goals unfold sForge
        all_goals repeat' split
        all_goals first | exact hC | (exfalso; omega) | (exact RC_forge hC)
    · refine x_iload_n (pc' := 15) hE dX8_forge_14 rfl rfl ?_
      refine x_bipush (pc' := 17) hE dX8_forge_15 rfl (by decide +kernel) ?_
      refine x_icmplt (tgt := 23) (pc' := 20) hE dX8_forge_17 (by decide) rfl ⟨by omega, by omega⟩ ⟨by omega, by omega⟩ (fun h4 => ?_) (fun h4 => ?_)
      · have q7 := r7 c (by omega) (by omega)
        have q8 : wv τ 7 c = τ 2 0 0 c := rfl
        refine x_aload_n (pc' := 24) hE dX8_forge_23 rfl rfl ?_
        refine g_X8_2 (pc' := 27) hE hM tF_X8_26 dX8_forge_24 rfl ?_
        refine gN_X7_2 (pc' := 30) (by omega) hE hM (fun _ h => nF_X8_83 h) dX8_forge_27 rfl ?_
        refine x_iload_n (pc' := 31) hE dX8_forge_30 rfl rfl ?_
        refine aC_9 (pc' := 32) (by omega) hE hM (by omega) (by omega) dX8_forge_31 rfl ?_
        refine x_istore_n (pc' := 33) hE dX8_forge_32 rfl (by decide) rfl rfl ?_
        dsimp only [List.set]
        refine x_aload_n (pc' := 34) hE dX8_forge_33 rfl rfl ?_
        refine g_X8_2 (pc' := 37) hE hM tF_X8_26 dX8_forge_34 rfl ?_
        refine gN_X7_2 (pc' := 40) (by omega) hE hM (fun _ h => nF_X8_83 h) dX8_forge_37 rfl ?_
        refine x_iload_n (pc' := 41) hE dX8_forge_40 rfl rfl ?_
        refine x_iload_n (pc' := 42) hE dX8_forge_41 rfl rfl ?_
        refine sC_9 (pc' := 43) (by omega) hE hM (by omega) (by omega) dX8_forge_42 rfl ?_
        refine x_iload_n (pc' := 44) hE dX8_forge_43 rfl rfl ?_
        refine x_iret hE dX8_forge_44 ?_
        refine ⟨ri ?_, ?_⟩
        · first | (exfalso; omega) | skip
          all_goals unfold aForge
          all_goals repeat' split
          all_goals first | rfl | omega | (exfalso; omega)
        · first | (exfalso; omega) | skip
          all_goals unfold sForge
          all_goals repeat' split
          all_goals first | exact hC | (exfalso; omega) | (exact RC_forge hC)
      · refine x_bipush (pc' := 22) hE dX8_forge_20 rfl (by decide +kernel) ?_
        refine x_iret hE dX8_forge_22 ?_
        refine ⟨ri ?_, ?_⟩
        · first | (exfalso; omega) | skip
          all_goals unfold aForge
          all_goals repeat' split
          all_goals first | rfl | omega | (exfalso; omega)
        · first | (exfalso; omega) | skip
          all_goals unfold sForge
          all_goals repeat' split
          all_goals first | exact hC | (exfalso; omega) | (exact RC_forge hC)
  · try simp only [decide_eq_true_eq, decide_eq_false_iff_not] at h2
    refine x_bipush (pc' := 9) hE dX8_forge_7 rfl (by decide +kernel) ?_
    refine x_iret hE dX8_forge_9 ?_
    refine ⟨ri ?_, ?_⟩
    · first | (exfalso; omega) | skip
      all_goals unfold aForge
      all_goals repeat' split
      all_goals first | rfl | omega | (exfalso; omega)
    · first | (exfalso; omega) | skip
      all_goals unfold sForge
      all_goals repeat' split
      all_goals first | exact hC | (exfalso; omega) | (exact RC_forge hC)
set_option maxHeartbeats 4000000 in
set_option maxRecDepth 10000 in
theorem c_X8_letter (l : Launch) (G : GC) (σ : St) (τ : St) (B : Int) (hI : IM B τ) (hC : RC σ τ) (hB : B ≤ 800000) (c : Int) (hc : inR c) : Ct l (YC G) yX8_letter (.code yX8_letter cX8_letter 2 (some .int)) 1 [.ref (aC G 0 0 0), .int (iN c)] σ (fun v σ' => v = some (.int (iN (aLetter τ c))) ∧ RC σ' (sLetter τ c)) := by
  refine Ct_of (own := RX8) [some (.ref (aC G 0 0 0)), some (.int (iN c))] rfl rfl (Nat.le_of_ble_eq_true rfl) rfl ?_
  intro E hE hM hl hR
  obtain ⟨hW, hF, hrd, hak, hpl, hpg, hwt, hfr, hsn, hso, hce, hkp, hkk⟩ := id hI
  obtain ⟨hnp, hnf, hday, hpp, hff, hcc⟩ := WT_of hW
  obtain ⟨cP, ⟨cN, hRF⟩, hRW, cS, cI, cK, cR, cA⟩ := id hC
  obtain ⟨r1, r2, r3, r4, r5, r6, r7⟩ := id hRW
  obtain ⟨p1, p2⟩ := id cP
  have w00 : wv τ 0 0 = τ 0 0 0 5 := rfl
  have w01 : wv τ 0 1 = τ 0 0 0 9 := rfl
  have w02 : wv τ 0 2 = τ 0 0 0 3 := rfl
  obtain ⟨c1, c2⟩ := hc
  refine x_iload_n (pc' := 1) hE dX8_letter_0 rfl rfl ?_
  refine x_bipush (pc' := 3) hE dX8_letter_1 rfl (by decide +kernel) ?_
  refine x_icmplt (tgt := 12) (pc' := 6) hE dX8_letter_3 (by decide) rfl ⟨by omega, by omega⟩ ⟨by omega, by omega⟩ (fun h1 => ?_) (fun h1 => ?_)
  · refine x_bipush (pc' := 14) hE dX8_letter_12 rfl (by decide +kernel) ?_
    refine x_iret hE dX8_letter_14 ?_
    refine ⟨ri ?_, ?_⟩
    · first | (exfalso; omega) | skip
      all_goals unfold aLetter
      all_goals repeat' split
      all_goals first | rfl | omega | (exfalso; omega)
    · first | (exfalso; omega) | skip
      all_goals unfold sLetter
      all_goals repeat' split
      all_goals first | exact hC | (exfalso; omega) | (exact RC_letter hC)
  · refine x_iload_n (pc' := 7) hE dX8_letter_6 rfl rfl ?_
    refine x_bipush (pc' := 9) hE dX8_letter_7 rfl (by decide +kernel) ?_
    refine x_icmple (tgt := 15) (pc' := 12) hE dX8_letter_9 (by decide) rfl ⟨by omega, by omega⟩ ⟨by omega, by omega⟩ (fun h2 => ?_) (fun h2 => ?_)
    · refine x_aload_n (pc' := 16) hE dX8_letter_15 rfl rfl ?_
      refine g_X8_0 (pc' := 19) hE hM tF_X8_12 dX8_letter_16 rfl ?_
      refine x_iload_n (pc' := 20) hE dX8_letter_19 rfl rfl ?_
      refine x_i2c (pc' := 21) hE dX8_letter_20 rfl (nar_c (by omega) (by omega)) ?_
      refine x_cV1 (pc' := 24) hE hM (okC G) hl hR (c_X5_put l G _ _ _ cP (by omega) hpg _ (by omega) (by omega)) kX5_put tM_X8_43 (rcv_X5 hM) (by decide) dX8_letter_21 rfl rfl (Nat.le_of_ble_eq_true rfl) (fun σ3 e3 => ?_)
      replace e3 := e3.symm
      subst e3
      refine x_ifneB (tgt := 30) (pc' := 27) hE dX8_letter_24 (by decide) rfl (fun h4 => ?_) (fun h4 => ?_)
      · try simp only [decide_eq_true_eq, decide_eq_false_iff_not] at h4
        rw [if_pos (by omega)]
        refine x_aload_n (pc' := 31) hE dX8_letter_30 rfl rfl ?_
        refine g_X8_0 (pc' := 34) hE hM tF_X8_12 dX8_letter_31 rfl ?_
        refine gN_X5_1 (pc' := 37) hE hM (fun _ h => nF_X8_47 h) dX8_letter_34 rfl ?_
        rw [up_s]
        refine x_iret hE dX8_letter_37 ?_
        refine ⟨ri ?_, ?_⟩
        · first | (exfalso; omega) | skip
          all_goals unfold aLetter
          all_goals repeat' split
          all_goals first | rfl | omega | (exfalso; omega)
        · first | (exfalso; omega) | skip
          all_goals unfold sLetter
          all_goals repeat' split
          all_goals first | exact hC | (exfalso; omega) | (exact RC_letter hC)
      · try simp only [decide_eq_true_eq, decide_eq_false_iff_not] at h4
        rw [if_neg (by omega)]
        refine x_bipush (pc' := 29) hE dX8_letter_27 rfl (by decide +kernel) ?_
        refine x_iret hE dX8_letter_29 ?_
        refine ⟨ri ?_, ?_⟩
        · first | (exfalso; omega) | skip
          all_goals unfold aLetter
          all_goals repeat' split
          all_goals first | rfl | omega | (exfalso; omega)
        · first | (exfalso; omega) | skip
          all_goals unfold sLetter
          all_goals repeat' split
          all_goals first | exact hC | (exfalso; omega) | (exact RC_letter hC)
    · refine x_bipush (pc' := 14) hE dX8_letter_12 rfl (by decide +kernel) ?_
      refine x_iret hE dX8_letter_14 ?_
      refine ⟨ri ?_, ?_⟩
      · first | (exfalso; omega) | skip
        all_goals unfold aLetter
        all_goals repeat' split
        all_goals first | rfl | omega | (exfalso; omega)
      · first | (exfalso; omega) | skip
        all_goals unfold sLetter
        all_goals repeat' split
        all_goals first | exact hC | (exfalso; omega) | (exact RC_letter hC)
set_option maxHeartbeats 4000000 in
set_option maxRecDepth 10000 in
theorem c_X8_dayOf (l : Launch) (G : GC) (σ : St) (τ : St) (B : Int) (hI : IM B τ) (hC : RC σ τ) (hB : B ≤ 800000) (d : Int) (hd : inR d) (w : Int) (hw : inR w) : Ct l (YC G) yX8_dayOf (.code yX8_dayOf cX8_dayOf 3 (some .int)) 1 [.ref (aC G 0 0 0), .int (iN d), .int (iN w)] σ (fun v σ' => v = some (.int (iN (aDayOf τ d w))) ∧ RC σ' τ) := by
  refine Ct_of (own := RX8) [some (.ref (aC G 0 0 0)), some (.int (iN d)), some (.int (iN w))] rfl rfl (Nat.le_of_ble_eq_true rfl) rfl ?_
  intro E hE hM hl hR
  obtain ⟨hW, hF, hrd, hak, hpl, hpg, hwt, hfr, hsn, hso, hce, hkp, hkk⟩ := id hI
  obtain ⟨hnp, hnf, hday, hpp, hff, hcc⟩ := WT_of hW
  obtain ⟨cP, ⟨cN, hRF⟩, hRW, cS, cI, cK, cR, cA⟩ := id hC
  obtain ⟨r1, r2, r3, r4, r5, r6, r7⟩ := id hRW
  obtain ⟨p1, p2⟩ := id cP
  have w00 : wv τ 0 0 = τ 0 0 0 5 := rfl
  have w01 : wv τ 0 1 = τ 0 0 0 9 := rfl
  have w02 : wv τ 0 2 = τ 0 0 0 3 := rfl
  obtain ⟨d1, d2⟩ := hd
  obtain ⟨w1, w2⟩ := hw
  refine x_iload_n (pc' := 1) hE dX8_dayOf_0 rfl rfl ?_
  refine x_iflt (tgt := 11) (pc' := 4) hE dX8_dayOf_1 (by decide) rfl ⟨by omega, by omega⟩ (fun h1 => ?_) (fun h1 => ?_)
  · refine x_bipush (pc' := 13) hE dX8_dayOf_11 rfl (by decide +kernel) ?_
    refine x_iret hE dX8_dayOf_13 ?_
    refine ⟨ri ?_, ?_⟩
    · first | (exfalso; omega) | skip
      first | ((unfold aDayOf dyN; rw [if_neg (show ¬ ¬ (0 ≤ d ∧ d ≤ 9999) by omega), if_pos (show 0 ≤ w ∧ w ≤ 3 by omega)]; subst_vars; simp_all; done)) | skip
      all_goals unfold aDayOf
      all_goals repeat' split
      all_goals first | rfl | omega | (exfalso; omega)
    · first | (exfalso; omega) | skip
      all_goals first | exact hC | (exfalso; omega) | (assumption)
  · refine x_iload_n (pc' := 5) hE dX8_dayOf_4 rfl rfl ?_
    refine x_sipush (pc' := 8) hE dX8_dayOf_5 rfl (by decide +kernel) ?_
    refine x_icmple (tgt := 14) (pc' := 11) hE dX8_dayOf_8 (by decide) rfl ⟨by omega, by omega⟩ ⟨by omega, by omega⟩ (fun h2 => ?_) (fun h2 => ?_)
    · refine x_iload_n (pc' := 15) hE dX8_dayOf_14 rfl rfl ?_
      rcases (show w = 0 ∨ w = 1 ∨ w = 2 ∨ w = 3 ∨ (w < 0 ∨ 3 < w) by omega) with h3 | h3 | h3 | h3 | h3
      · refine x_tabIn (tgt := 44) (off := 29) hE dX8_dayOf_15 ⟨by omega, by omega⟩ (by omega) (by omega) (by rw [h3]; rfl) (by decide) ?_
        refine x_iload_n (pc' := 45) hE dX8_dayOf_44 rfl rfl ?_
        refine x_bipush (pc' := 47) hE dX8_dayOf_45 rfl (by decide +kernel) ?_
        refine x_irem (pc' := 48) hE dX8_dayOf_47 rfl (by omega) (by omega) (by omega) (by omega) ?_
        refine x_iret hE dX8_dayOf_48 ?_
        refine ⟨ri ?_, ?_⟩
        · first | (exfalso; omega) | skip
          first | ((unfold aDayOf dyN; rw [if_neg (show ¬ ¬ (0 ≤ d ∧ d ≤ 9999) by omega), if_pos (show 0 ≤ w ∧ w ≤ 3 by omega)]; subst_vars; simp_all; done)) | skip
          all_goals unfold aDayOf
          all_goals repeat' split
          all_goals first | rfl | omega | (exfalso; omega)
        · first | (exfalso; omega) | skip
          all_goals first | exact hC | (exfalso; omega) | (assumption)
      · refine x_tabIn (tgt := 49) (off := 34) hE dX8_dayOf_15 ⟨by omega, by omega⟩ (by omega) (by omega) (by rw [h3]; rfl) (by decide) ?_
        refine x_iload_n (pc' := 50) hE dX8_dayOf_49 rfl rfl ?_
        refine x_cS1 (pc' := 53) hE hM (okC G) hl hR (c_X8_nameOfDay l G _ _ (by omega) (by omega)) kX8_nameOfDay tM_X8_72 (by decide) dX8_dayOf_50 rfl rfl (Nat.le_of_ble_eq_true rfl) (fun σ4 e4 => ?_)
        replace e4 := e4.symm
        subst e4
        refine x_iret hE dX8_dayOf_53 ?_
        refine ⟨ri ?_, ?_⟩
        · first | (exfalso; omega) | skip
          first | ((unfold aDayOf dyN; rw [if_neg (show ¬ ¬ (0 ≤ d ∧ d ≤ 9999) by omega), if_pos (show 0 ≤ w ∧ w ≤ 3 by omega)]; subst_vars; simp_all; done)) | skip
          all_goals unfold aDayOf
          all_goals repeat' split
          all_goals first | rfl | omega | (exfalso; omega)
        · first | (exfalso; omega) | skip
          all_goals first | exact hC | (exfalso; omega) | (assumption)
      · refine x_tabIn (tgt := 54) (off := 39) hE dX8_dayOf_15 ⟨by omega, by omega⟩ (by omega) (by omega) (by rw [h3]; rfl) (by decide) ?_
        refine x_aload_n (pc' := 55) hE dX8_dayOf_54 rfl rfl ?_
        refine g_X8_1 (pc' := 58) hE hM tF_X8_19 dX8_dayOf_55 rfl ?_
        refine x_iload_n (pc' := 59) hE dX8_dayOf_58 rfl rfl ?_
        refine x_cV1 (pc' := 62) hE hM (okC G) hl hR (c_X1_isFeast l G _ _ hRF _ (by omega) (by omega)) kX1_isFeast tM_X8_76 (rcv_X1 hM) (by decide) dX8_dayOf_59 rfl rfl (Nat.le_of_ble_eq_true rfl) (fun σ5 e5 => ?_)
        replace e5 := e5.symm
        subst e5
        refine x_ifeqB (tgt := 69) (pc' := 65) hE dX8_dayOf_62 (by decide) rfl (fun h6 => ?_) (fun h6 => ?_)
        · try simp only [decide_eq_true_eq, decide_eq_false_iff_not] at h6
          refine x_iconst (pc' := 70) hE dX8_dayOf_69 rfl ?_
          refine x_iret hE dX8_dayOf_70 ?_
          refine ⟨ri ?_, ?_⟩
          · first | (exfalso; omega) | skip
            first | ((unfold aDayOf dyN; rw [if_neg (show ¬ ¬ (0 ≤ d ∧ d ≤ 9999) by omega), if_pos (show 0 ≤ w ∧ w ≤ 3 by omega)]; subst_vars; simp_all; done)) | skip
            all_goals unfold aDayOf
            all_goals repeat' split
            all_goals first | rfl | omega | (exfalso; omega)
          · first | (exfalso; omega) | skip
            all_goals first | exact hC | (exfalso; omega) | (assumption)
        · try simp only [decide_eq_true_eq, decide_eq_false_iff_not] at h6
          refine x_iconst (pc' := 66) hE dX8_dayOf_65 rfl ?_
          refine x_goto (tgt := 70) hE dX8_dayOf_66 (by decide) ?_
          refine x_iret hE dX8_dayOf_70 ?_
          refine ⟨ri ?_, ?_⟩
          · first | (exfalso; omega) | skip
            first | ((unfold aDayOf dyN; rw [if_neg (show ¬ ¬ (0 ≤ d ∧ d ≤ 9999) by omega), if_pos (show 0 ≤ w ∧ w ≤ 3 by omega)]; subst_vars; simp_all; done)) | skip
            all_goals unfold aDayOf
            all_goals repeat' split
            all_goals first | rfl | omega | (exfalso; omega)
          · first | (exfalso; omega) | skip
            all_goals first | exact hC | (exfalso; omega) | (assumption)
      · refine x_tabIn (tgt := 71) (off := 56) hE dX8_dayOf_15 ⟨by omega, by omega⟩ (by omega) (by omega) (by rw [h3]; rfl) (by decide) ?_
        refine x_iload_n (pc' := 72) hE dX8_dayOf_71 rfl rfl ?_
        refine x_bipush (pc' := 74) hE dX8_dayOf_72 rfl (by decide +kernel) ?_
        refine x_idiv (pc' := 75) hE dX8_dayOf_74 rfl (by omega) (by omega) (by omega) (by omega) ?_
        refine x_iret hE dX8_dayOf_75 ?_
        refine ⟨ri ?_, ?_⟩
        · first | (exfalso; omega) | skip
          first | ((unfold aDayOf dyN; rw [if_neg (show ¬ ¬ (0 ≤ d ∧ d ≤ 9999) by omega), if_pos (show 0 ≤ w ∧ w ≤ 3 by omega)]; subst_vars; simp_all; done)) | skip
          all_goals unfold aDayOf
          all_goals repeat' split
          all_goals first | rfl | omega | (exfalso; omega)
        · first | (exfalso; omega) | skip
          all_goals first | exact hC | (exfalso; omega) | (assumption)
      · refine x_tabOut (tgt := 76) hE dX8_dayOf_15 ⟨by omega, by omega⟩ (by omega) (by decide) ?_
        refine x_bipush (pc' := 78) hE dX8_dayOf_76 rfl (by decide +kernel) ?_
        refine x_iret hE dX8_dayOf_78 ?_
        refine ⟨ri ?_, ?_⟩
        · first | (exfalso; omega) | skip
          first | ((unfold aDayOf dyN; rw [if_neg (show ¬ ¬ (0 ≤ d ∧ d ≤ 9999) by omega), if_pos (show 0 ≤ w ∧ w ≤ 3 by omega)]; subst_vars; simp_all; done)) | skip
          all_goals unfold aDayOf
          all_goals repeat' split
          all_goals first | rfl | omega | (exfalso; omega)
        · first | (exfalso; omega) | skip
          all_goals first | exact hC | (exfalso; omega) | (assumption)
    · refine x_bipush (pc' := 13) hE dX8_dayOf_11 rfl (by decide +kernel) ?_
      refine x_iret hE dX8_dayOf_13 ?_
      refine ⟨ri ?_, ?_⟩
      · first | (exfalso; omega) | skip
        first | ((unfold aDayOf dyN; rw [if_neg (show ¬ ¬ (0 ≤ d ∧ d ≤ 9999) by omega), if_pos (show 0 ≤ w ∧ w ≤ 3 by omega)]; subst_vars; simp_all; done)) | skip
        all_goals unfold aDayOf
        all_goals repeat' split
        all_goals first | rfl | omega | (exfalso; omega)
      · first | (exfalso; omega) | skip
        all_goals first | exact hC | (exfalso; omega) | (assumption)
set_option maxHeartbeats 4000000 in
set_option maxRecDepth 10000 in
theorem c_X8_about (l : Launch) (G : GC) (σ : St) (τ : St) (B : Int) (hI : IM B τ) (hC : RC σ τ) (hB : B ≤ 800000) (p : Int) (hp : inR p) (w : Int) (hw : inR w) : Ct l (YC G) yX8_about (.code yX8_about cX8_about 4 (some .int)) 3 [.ref (aC G 0 0 0), .int (iN p), .int (iN w)] σ (fun v σ' => v = some (.int (iN (aAbout τ p w))) ∧ RC σ' τ) := by
  refine Ct_of (own := RX8) [some (.ref (aC G 0 0 0)), some (.int (iN p)), some (.int (iN w)), none] rfl rfl (Nat.le_of_ble_eq_true rfl) rfl ?_
  intro E hE hM hl hR
  obtain ⟨hW, hF, hrd, hak, hpl, hpg, hwt, hfr, hsn, hso, hce, hkp, hkk⟩ := id hI
  obtain ⟨hnp, hnf, hday, hpp, hff, hcc⟩ := WT_of hW
  obtain ⟨cP, ⟨cN, hRF⟩, hRW, cS, cI, cK, cR, cA⟩ := id hC
  obtain ⟨r1, r2, r3, r4, r5, r6, r7⟩ := id hRW
  obtain ⟨p1, p2⟩ := id cP
  have w00 : wv τ 0 0 = τ 0 0 0 5 := rfl
  have w01 : wv τ 0 1 = τ 0 0 0 9 := rfl
  have w02 : wv τ 0 2 = τ 0 0 0 3 := rfl
  obtain ⟨p1, p2⟩ := hp
  obtain ⟨w1, w2⟩ := hw
  refine x_aload_n (pc' := 1) hE dX8_about_0 rfl rfl ?_
  refine g_X8_2 (pc' := 4) hE hM tF_X8_26 dX8_about_1 rfl ?_
  refine x_iload_n (pc' := 5) hE dX8_about_4 rfl rfl ?_
  refine x_cV1 (pc' := 8) hE hM (okC G) hl hR (c_X7_hasPack l G _ _ (by omega) _ _ (by assumption) (by assumption) (by omega) _ ⟨by omega, by omega⟩) kX7_hasPack tM_X8_107 (rcv_X7 (by omega) hM) (by decide) dX8_about_5 rfl rfl (Nat.le_of_ble_eq_true rfl) (fun σ1 e1 => ?_)
  replace e1 := e1.symm
  subst e1
  refine x_ifneB (tgt := 14) (pc' := 11) hE dX8_about_8 (by decide) rfl (fun h2 => ?_) (fun h2 => ?_)
  · try simp only [decide_eq_true_eq, decide_eq_false_iff_not] at h2
    have q1 := r5 p (by omega) (by omega)
    have q2 := hpp p (by omega) (by omega)
    have q3 : wv τ 1 p = τ 3 0 0 p := rfl
    have q4 : wv τ 2 p = τ 4 0 0 p := rfl
    have q5 : wv τ 3 p = τ 5 0 0 p := rfl
    have q6 := hcc (τ 4 0 0 p) (by omega) (by omega)
    have q7 : wv τ 7 (wv τ 2 p) = τ 2 0 0 (τ 4 0 0 p) := rfl
    have q8 := rdB_bd (k := wv τ 1 p) (f := wv τ 7 (wv τ 2 p)) (g := wv τ 3 p) (d := wv τ 0 2) (by omega) (by omega) (by omega)
    refine x_aload_n (pc' := 15) hE dX8_about_14 rfl rfl ?_
    refine g_X8_2 (pc' := 18) hE hM tF_X8_26 dX8_about_15 rfl ?_
    refine gN_X7_0 (pc' := 21) (by omega) hE hM (fun _ h => nF_X8_93 h) dX8_about_18 rfl ?_
    refine x_iload_n (pc' := 22) hE dX8_about_21 rfl rfl ?_
    refine aC_7 (pc' := 23) (by omega) hE hM (by omega) (by omega) dX8_about_22 rfl ?_
    refine x_astore_n (pc' := 24) hE dX8_about_23 rfl (by decide) rfl rfl ?_
    dsimp only [List.set]
    refine x_iload_n (pc' := 25) hE dX8_about_24 rfl rfl ?_
    rcases (show w = 0 ∨ w = 1 ∨ w = 2 ∨ w = 3 ∨ w = 4 ∨ w = 5 ∨ w = 6 ∨ (w < 0 ∨ 6 < w) by omega) with h3 | h3 | h3 | h3 | h3 | h3 | h3 | h3
    · refine x_tabIn (tgt := 68) (off := 43) hE dX8_about_25 ⟨by omega, by omega⟩ (by omega) (by omega) (by rw [h3]; rfl) (by decide) ?_
      refine x_aload_n (pc' := 69) hE dX8_about_68 rfl rfl ?_
      refine gN_X4_0 (pc' := 72) (by omega) (by omega) (by omega) hE hM (fun _ h => nF_X8_110 h) dX8_about_69 rfl ?_
      refine kg_0 (pc' := 75) (by omega) (by omega) hE hM (fun _ h => nF_X8_114 h) dX8_about_72 rfl ?_
      refine x_iret hE dX8_about_75 ?_
      refine ⟨ri ?_, ?_⟩
      · first | (exfalso; omega) | skip
        first | ((unfold aAbout pkN; rw [if_neg (show ¬ nPk τ p by omega), if_pos (show 0 ≤ w ∧ w ≤ 6 by omega)]; subst_vars; first | (simp; omega) | (simp; done) | (simp only [fsB_r]; rw [q1.1] at *; simp_all; done))) | skip
        all_goals unfold aAbout
        all_goals repeat' split
        all_goals first | rfl | omega | (exfalso; omega)
      · first | (exfalso; omega) | skip
        all_goals first | exact hC | (exfalso; omega) | (assumption)
    · refine x_tabIn (tgt := 76) (off := 51) hE dX8_about_25 ⟨by omega, by omega⟩ (by omega) (by omega) (by rw [h3]; rfl) (by decide) ?_
      refine x_aload_n (pc' := 77) hE dX8_about_76 rfl rfl ?_
      refine gN_X4_1 (pc' := 80) (by omega) (by omega) (by omega) hE hM (fun _ h => nF_X8_117 h) dX8_about_77 rfl ?_
      refine x_iret hE dX8_about_80 ?_
      refine ⟨ri ?_, ?_⟩
      · first | (exfalso; omega) | skip
        first | ((unfold aAbout pkN; rw [if_neg (show ¬ nPk τ p by omega), if_pos (show 0 ≤ w ∧ w ≤ 6 by omega)]; subst_vars; first | (simp; omega) | (simp; done) | (simp only [fsB_r]; rw [q1.1] at *; simp_all; done))) | skip
        all_goals unfold aAbout
        all_goals repeat' split
        all_goals first | rfl | omega | (exfalso; omega)
      · first | (exfalso; omega) | skip
        all_goals first | exact hC | (exfalso; omega) | (assumption)
    · refine x_tabIn (tgt := 81) (off := 56) hE dX8_about_25 ⟨by omega, by omega⟩ (by omega) (by omega) (by rw [h3]; rfl) (by decide) ?_
      refine x_aload_n (pc' := 82) hE dX8_about_81 rfl rfl ?_
      refine gN_X4_2 (pc' := 85) (by omega) (by omega) (by omega) hE hM (fun _ h => nF_X8_120 h) dX8_about_82 rfl ?_
      refine x_iret hE dX8_about_85 ?_
      refine ⟨ri ?_, ?_⟩
      · first | (exfalso; omega) | skip
        first | ((unfold aAbout pkN; rw [if_neg (show ¬ nPk τ p by omega), if_pos (show 0 ≤ w ∧ w ≤ 6 by omega)]; subst_vars; first | (simp; omega) | (simp; done) | (simp only [fsB_r]; rw [q1.1] at *; simp_all; done))) | skip
        all_goals unfold aAbout
        all_goals repeat' split
        all_goals first | rfl | omega | (exfalso; omega)
      · first | (exfalso; omega) | skip
        all_goals first | exact hC | (exfalso; omega) | (assumption)
    · refine x_tabIn (tgt := 86) (off := 61) hE dX8_about_25 ⟨by omega, by omega⟩ (by omega) (by omega) (by rw [h3]; rfl) (by decide) ?_
      refine x_aload_n (pc' := 87) hE dX8_about_86 rfl rfl ?_
      refine g_X8_2 (pc' := 90) hE hM tF_X8_26 dX8_about_87 rfl ?_
      refine x_aload_n (pc' := 91) hE dX8_about_90 rfl rfl ?_
      refine x_cV1 (pc' := 94) hE hM (okC G) hl hR (c_X7_readBy l G _ _ (by omega) _ _ hRW hW (by omega) _ (by omega) (by omega)) kX7_readBy tM_X8_123 (rcv_X7 (by omega) hM) (by decide) dX8_about_91 rfl rfl (Nat.le_of_ble_eq_true rfl) (fun σ4 e4 => ?_)
      replace e4 := e4.symm
      subst e4
      refine x_iret hE dX8_about_94 ?_
      refine ⟨ri ?_, ?_⟩
      · first | (exfalso; omega) | skip
        first | ((unfold aAbout pkN; rw [if_neg (show ¬ nPk τ p by omega), if_pos (show 0 ≤ w ∧ w ≤ 6 by omega)]; subst_vars; first | (simp; omega) | (simp; done) | (simp only [fsB_r]; rw [q1.1] at *; simp_all; done))) | skip
        all_goals unfold aAbout
        all_goals repeat' split
        all_goals first | rfl | omega | (exfalso; omega)
      · first | (exfalso; omega) | skip
        all_goals first | exact hC | (exfalso; omega) | (assumption)
    · refine x_tabIn (tgt := 95) (off := 70) hE dX8_about_25 ⟨by omega, by omega⟩ (by omega) (by omega) (by rw [h3]; rfl) (by decide) ?_
      refine x_aload_n (pc' := 96) hE dX8_about_95 rfl rfl ?_
      refine gN_X4_0 (pc' := 99) (by omega) (by omega) (by omega) hE hM (fun _ h => nF_X8_110 h) dX8_about_96 rfl ?_
      refine x_aload_n (pc' := 100) hE dX8_about_99 rfl rfl ?_
      refine g_X8_2 (pc' := 103) hE hM tF_X8_26 dX8_about_100 rfl ?_
      refine x_aload_n (pc' := 104) hE dX8_about_103 rfl rfl ?_
      refine x_cV1 (pc' := 107) hE hM (okC G) hl hR (c_X7_readBy l G _ _ (by omega) _ _ hRW hW (by omega) _ (by omega) (by omega)) kX7_readBy tM_X8_123 (rcv_X7 (by omega) hM) (by decide) dX8_about_104 rfl rfl (Nat.le_of_ble_eq_true rfl) (fun σ5 e5 => ?_)
      replace e5 := e5.symm
      subst e5
      refine x_aload_n (pc' := 108) hE dX8_about_107 rfl rfl ?_
      refine g_X8_1 (pc' := 111) hE hM tF_X8_19 dX8_about_108 rfl ?_
      refine x_cV1 (pc' := 114) hE hM (okC G) hl hR (c_X3_fastsOn l G _ _ hRF _ _ (by omega) (by omega) (by omega) (by omega)) kX3_fastsOn tM_X8_127 (rcvK (by omega) (by omega) hM) (by decide) dX8_about_111 rfl rfl (Nat.le_of_ble_eq_true rfl) (fun σ6 e6 => ?_)
      replace e6 := e6.symm
      subst e6
      refine x_ifeqB (tgt := 121) (pc' := 117) hE dX8_about_114 (by decide) rfl (fun h7 => ?_) (fun h7 => ?_)
      · try simp only [decide_eq_true_eq, decide_eq_false_iff_not] at h7
        refine x_iconst (pc' := 122) hE dX8_about_121 rfl ?_
        refine x_iret hE dX8_about_122 ?_
        refine ⟨ri ?_, ?_⟩
        · first | (exfalso; omega) | skip
          first | ((unfold aAbout pkN; rw [if_neg (show ¬ nPk τ p by omega), if_pos (show 0 ≤ w ∧ w ≤ 6 by omega)]; subst_vars; first | (simp; omega) | (simp; done) | (simp only [fsB_r]; rw [q1.1] at *; simp_all; done))) | skip
          all_goals unfold aAbout
          all_goals repeat' split
          all_goals first | rfl | omega | (exfalso; omega)
        · first | (exfalso; omega) | skip
          all_goals first | exact hC | (exfalso; omega) | (assumption)
      · try simp only [decide_eq_true_eq, decide_eq_false_iff_not] at h7
        refine x_iconst (pc' := 118) hE dX8_about_117 rfl ?_
        refine x_goto (tgt := 122) hE dX8_about_118 (by decide) ?_
        refine x_iret hE dX8_about_122 ?_
        refine ⟨ri ?_, ?_⟩
        · first | (exfalso; omega) | skip
          first | ((unfold aAbout pkN; rw [if_neg (show ¬ nPk τ p by omega), if_pos (show 0 ≤ w ∧ w ≤ 6 by omega)]; subst_vars; first | (simp; omega) | (simp; done) | (simp only [fsB_r]; rw [q1.1] at *; simp_all; done))) | skip
          all_goals unfold aAbout
          all_goals repeat' split
          all_goals first | rfl | omega | (exfalso; omega)
        · first | (exfalso; omega) | skip
          all_goals first | exact hC | (exfalso; omega) | (assumption)
    · refine x_tabIn (tgt := 123) (off := 98) hE dX8_about_25 ⟨by omega, by omega⟩ (by omega) (by omega) (by rw [h3]; rfl) (by decide) ?_
      refine x_aload_n (pc' := 124) hE dX8_about_123 rfl rfl ?_
      refine g_X8_2 (pc' := 127) hE hM tF_X8_26 dX8_about_124 rfl ?_
      refine x_aload_n (pc' := 128) hE dX8_about_127 rfl rfl ?_
      refine x_aload_n (pc' := 129) hE dX8_about_128 rfl rfl ?_
      refine g_X8_1 (pc' := 132) hE hM tF_X8_19 dX8_about_129 rfl ?_
      refine x_cV1 (pc' := 135) hE hM (okC G) hl hR (c_X7_preyOf l G _ _ (by omega) _ _ hRW hW (by omega) _ hRF _ (by omega) (by omega)) kX7_preyOf tM_X8_131 (rcv_X7 (by omega) hM) (by decide) dX8_about_132 rfl rfl (Nat.le_of_ble_eq_true rfl) (fun σ8 e8 => ?_)
      replace e8 := e8.symm
      subst e8
      refine x_iret hE dX8_about_135 ?_
      refine ⟨ri ?_, ?_⟩
      · first | (exfalso; omega) | skip
        first | ((unfold aAbout pkN; rw [if_neg (show ¬ nPk τ p by omega), if_pos (show 0 ≤ w ∧ w ≤ 6 by omega)]; subst_vars; first | (simp; omega) | (simp; done) | (simp only [fsB_r]; rw [q1.1] at *; simp_all; done))) | skip
        all_goals unfold aAbout
        all_goals repeat' split
        all_goals first | rfl | omega | (exfalso; omega)
      · first | (exfalso; omega) | skip
        all_goals first | exact hC | (exfalso; omega) | (assumption)
    · refine x_tabIn (tgt := 136) (off := 111) hE dX8_about_25 ⟨by omega, by omega⟩ (by omega) (by omega) (by rw [h3]; rfl) (by decide) ?_
      refine x_aload_n (pc' := 137) hE dX8_about_136 rfl rfl ?_
      refine g_X8_2 (pc' := 140) hE hM tF_X8_26 dX8_about_137 rfl ?_
      refine x_iload_n (pc' := 141) hE dX8_about_140 rfl rfl ?_
      refine x_cV1 (pc' := 144) hE hM (okC G) hl hR (c_X7_eatenBy l G _ _ (by omega) _ _ (by assumption) (by assumption) (by omega) _ (by omega) (by omega)) kX7_eatenBy tM_X8_135 (rcv_X7 (by omega) hM) (by decide) dX8_about_141 rfl rfl (Nat.le_of_ble_eq_true rfl) (fun σ9 e9 => ?_)
      replace e9 := e9.symm
      subst e9
      refine x_iret hE dX8_about_144 ?_
      refine ⟨ri ?_, ?_⟩
      · first | (exfalso; omega) | skip
        first | ((unfold aAbout pkN; rw [if_neg (show ¬ nPk τ p by omega), if_pos (show 0 ≤ w ∧ w ≤ 6 by omega)]; subst_vars; first | (simp; omega) | (simp; done) | (simp only [fsB_r]; rw [q1.1] at *; simp_all; done))) | skip
        all_goals unfold aAbout
        all_goals repeat' split
        all_goals first | rfl | omega | (exfalso; omega)
      · first | (exfalso; omega) | skip
        all_goals first | exact hC | (exfalso; omega) | (assumption)
    · refine x_tabOut (tgt := 145) hE dX8_about_25 ⟨by omega, by omega⟩ (by omega) (by decide) ?_
      refine x_bipush (pc' := 147) hE dX8_about_145 rfl (by decide +kernel) ?_
      refine x_iret hE dX8_about_147 ?_
      refine ⟨ri ?_, ?_⟩
      · first | (exfalso; omega) | skip
        first | ((unfold aAbout pkN; rw [if_neg (show ¬ nPk τ p by omega), if_pos (show 0 ≤ w ∧ w ≤ 6 by omega)]; subst_vars; first | (simp; omega) | (simp; done) | (simp only [fsB_r]; rw [q1.1] at *; simp_all; done))) | skip
        all_goals unfold aAbout
        all_goals repeat' split
        all_goals first | rfl | omega | (exfalso; omega)
      · first | (exfalso; omega) | skip
        all_goals first | exact hC | (exfalso; omega) | (assumption)
  · try simp only [decide_eq_true_eq, decide_eq_false_iff_not] at h2
    refine x_bipush (pc' := 13) hE dX8_about_11 rfl (by decide +kernel) ?_
    refine x_iret hE dX8_about_13 ?_
    refine ⟨ri ?_, ?_⟩
    · first | (exfalso; omega) | skip
      first | ((unfold aAbout pkN; rw [if_neg (show ¬ nPk τ p by omega), if_pos (show 0 ≤ w ∧ w ≤ 6 by omega)]; subst_vars; first | (simp; omega) | (simp; done) | (simp only [fsB_r]; rw [q1.1] at *; simp_all; done))) | skip
      all_goals unfold aAbout
      all_goals repeat' split
      all_goals first | rfl | omega | (exfalso; omega)
    · first | (exfalso; omega) | skip
      all_goals first | exact hC | (exfalso; omega) | (assumption)
set_option maxHeartbeats 4000000 in
set_option maxRecDepth 10000 in
theorem c_X8_as (l : Launch) (G : GC) (σ : St) (τ : St) (B : Int) (hI : IM B τ) (hC : RC σ τ) (hB : B ≤ 800000) (p : Int) (hp : inR p) (k : Int) (hk : inR k) : Ct l (YC G) yX8_as (.code yX8_as cX8_as 3 (some .int)) 1 [.ref (aC G 0 0 0), .int (iN p), .int (iN k)] σ (fun v σ' => v = some (.int (iN (aAs τ p k))) ∧ RC σ' τ) := by
  refine Ct_of (own := RX8) [some (.ref (aC G 0 0 0)), some (.int (iN p)), some (.int (iN k))] rfl rfl (Nat.le_of_ble_eq_true rfl) rfl ?_
  intro E hE hM hl hR
  obtain ⟨hW, hF, hrd, hak, hpl, hpg, hwt, hfr, hsn, hso, hce, hkp, hkk⟩ := id hI
  obtain ⟨hnp, hnf, hday, hpp, hff, hcc⟩ := WT_of hW
  obtain ⟨cP, ⟨cN, hRF⟩, hRW, cS, cI, cK, cR, cA⟩ := id hC
  obtain ⟨r1, r2, r3, r4, r5, r6, r7⟩ := id hRW
  obtain ⟨p1, p2⟩ := id cP
  have w00 : wv τ 0 0 = τ 0 0 0 5 := rfl
  have w01 : wv τ 0 1 = τ 0 0 0 9 := rfl
  have w02 : wv τ 0 2 = τ 0 0 0 3 := rfl
  obtain ⟨p1, p2⟩ := hp
  obtain ⟨k1, k2⟩ := hk
  refine x_aload_n (pc' := 1) hE dX8_as_0 rfl rfl ?_
  refine g_X8_2 (pc' := 4) hE hM tF_X8_26 dX8_as_1 rfl ?_
  refine x_iload_n (pc' := 5) hE dX8_as_4 rfl rfl ?_
  refine x_cV1 (pc' := 8) hE hM (okC G) hl hR (c_X7_hasPack l G _ _ (by omega) _ _ (by assumption) (by assumption) (by omega) _ ⟨by omega, by omega⟩) kX7_hasPack tM_X8_107 (rcv_X7 (by omega) hM) (by decide) dX8_as_5 rfl rfl (Nat.le_of_ble_eq_true rfl) (fun σ1 e1 => ?_)
  replace e1 := e1.symm
  subst e1
  refine x_ifneB (tgt := 14) (pc' := 11) hE dX8_as_8 (by decide) rfl (fun h2 => ?_) (fun h2 => ?_)
  · try simp only [decide_eq_true_eq, decide_eq_false_iff_not] at h2
    refine x_iload_n (pc' := 15) hE dX8_as_14 rfl rfl ?_
    refine x_cS1 (pc' := 18) hE hM (okC G) hl hR (c_X8_isKind l G _ _ ⟨by omega, by omega⟩) kX8_isKind tM_X8_87 (by decide) dX8_as_15 rfl rfl (Nat.le_of_ble_eq_true rfl) (fun σ3 e3 => ?_)
    replace e3 := e3.symm
    subst e3
    refine x_ifneB (tgt := 24) (pc' := 21) hE dX8_as_18 (by decide) rfl (fun h4 => ?_) (fun h4 => ?_)
    · try simp only [decide_eq_true_eq, decide_eq_false_iff_not] at h4
      have q1 := r5 p (by omega) (by omega)
      have q2 := hpp p (by omega) (by omega)
      have q3 : wv τ 1 p = τ 3 0 0 p := rfl
      have q4 : wv τ 2 p = τ 4 0 0 p := rfl
      have q5 : wv τ 3 p = τ 5 0 0 p := rfl
      have q6 := hcc (τ 4 0 0 p) (by omega) (by omega)
      have q7 : wv τ 7 (wv τ 2 p) = τ 2 0 0 (τ 4 0 0 p) := rfl
      have q8 := rdB_bd (k := wv τ 1 p) (f := wv τ 7 (wv τ 2 p)) (g := wv τ 3 p) (d := wv τ 0 2) (by omega) (by omega) (by omega)
      refine x_aload_n (pc' := 25) hE dX8_as_24 rfl rfl ?_
      refine g_X8_2 (pc' := 28) hE hM tF_X8_26 dX8_as_25 rfl ?_
      refine gN_X7_0 (pc' := 31) (by omega) hE hM (fun _ h => nF_X8_93 h) dX8_as_28 rfl ?_
      refine x_iload_n (pc' := 32) hE dX8_as_31 rfl rfl ?_
      refine aC_7 (pc' := 33) (by omega) hE hM (by omega) (by omega) dX8_as_32 rfl ?_
      refine gN_X4_0 (pc' := 36) (by omega) (by omega) (by omega) hE hM (fun _ h => nF_X8_110 h) dX8_as_33 rfl ?_
      refine x_kinds (pc' := 39) hE hM tF_X8_97 dX8_as_36 rfl ?_
      refine x_iload_n (pc' := 40) hE dX8_as_39 rfl rfl ?_
      refine x_kald (pc' := 41) hE hM (by omega) (by omega) dX8_as_40 rfl ?_
      refine x_cV1 (pc' := 44) hE hM (okC G) hl hR (c_X3_isSuch l G _ _ _ (by omega) (by omega) (by omega) (by omega)) kX3_isSuch tM_X8_138 (rcvK (by omega) (by omega) hM) (by decide) dX8_as_41 rfl rfl (Nat.le_of_ble_eq_true rfl) (fun σ5 e5 => ?_)
      replace e5 := e5.symm
      subst e5
      refine x_ifeqB (tgt := 51) (pc' := 47) hE dX8_as_44 (by decide) rfl (fun h6 => ?_) (fun h6 => ?_)
      · try simp only [decide_eq_true_eq, decide_eq_false_iff_not] at h6
        refine x_iconst (pc' := 52) hE dX8_as_51 rfl ?_
        refine x_iret hE dX8_as_52 ?_
        refine ⟨ri ?_, ?_⟩
        · first | (exfalso; omega) | skip
          all_goals unfold aAs
          all_goals repeat' split
          all_goals first | rfl | omega | (exfalso; omega)
        · first | (exfalso; omega) | skip
          all_goals first | exact hC | (exfalso; omega) | (assumption)
      · try simp only [decide_eq_true_eq, decide_eq_false_iff_not] at h6
        refine x_iload_n (pc' := 48) hE dX8_as_47 rfl rfl ?_
        refine x_goto (tgt := 52) hE dX8_as_48 (by decide) ?_
        refine x_iret hE dX8_as_52 ?_
        refine ⟨ri ?_, ?_⟩
        · first | (exfalso; omega) | skip
          all_goals unfold aAs
          all_goals repeat' split
          all_goals first | rfl | omega | (exfalso; omega)
        · first | (exfalso; omega) | skip
          all_goals first | exact hC | (exfalso; omega) | (assumption)
    · try simp only [decide_eq_true_eq, decide_eq_false_iff_not] at h4
      refine x_bipush (pc' := 23) hE dX8_as_21 rfl (by decide +kernel) ?_
      refine x_iret hE dX8_as_23 ?_
      refine ⟨ri ?_, ?_⟩
      · first | (exfalso; omega) | skip
        all_goals unfold aAs
        all_goals repeat' split
        all_goals first | rfl | omega | (exfalso; omega)
      · first | (exfalso; omega) | skip
        all_goals first | exact hC | (exfalso; omega) | (assumption)
  · try simp only [decide_eq_true_eq, decide_eq_false_iff_not] at h2
    refine x_bipush (pc' := 13) hE dX8_as_11 rfl (by decide +kernel) ?_
    refine x_iret hE dX8_as_13 ?_
    refine ⟨ri ?_, ?_⟩
    · first | (exfalso; omega) | skip
      all_goals unfold aAs
      all_goals repeat' split
      all_goals first | rfl | omega | (exfalso; omega)
    · first | (exfalso; omega) | skip
      all_goals first | exact hC | (exfalso; omega) | (assumption)
set_option maxHeartbeats 4000000 in
set_option maxRecDepth 10000 in
theorem c_X8_pack (l : Launch) (G : GC) (σ : St) (τ : St) (B : Int) (hI : IM B τ) (hC : RC σ τ) (hB : B ≤ 800000) (k : Int) (hk : inR k) (c : Int) (hc : inR c) (g : Int) (hg : inR g) : Ct l (YC G) yX8_pack (.code yX8_pack cX8_pack 4 (some .int)) 1 [.ref (aC G 0 0 0), .int (iN k), .int (iN c), .int (iN g)] σ (fun v σ' => v = some (.int (iN (aPack τ k c g))) ∧ RC σ' (sPack τ k c g)) := by
  refine Ct_of (own := RX8) [some (.ref (aC G 0 0 0)), some (.int (iN k)), some (.int (iN c)), some (.int (iN g))] rfl rfl (Nat.le_of_ble_eq_true rfl) rfl ?_
  intro E hE hM hl hR
  obtain ⟨hW, hF, hrd, hak, hpl, hpg, hwt, hfr, hsn, hso, hce, hkp, hkk⟩ := id hI
  obtain ⟨hnp, hnf, hday, hpp, hff, hcc⟩ := WT_of hW
  obtain ⟨cP, ⟨cN, hRF⟩, hRW, cS, cI, cK, cR, cA⟩ := id hC
  obtain ⟨r1, r2, r3, r4, r5, r6, r7⟩ := id hRW
  obtain ⟨p1, p2⟩ := id cP
  have w00 : wv τ 0 0 = τ 0 0 0 5 := rfl
  have w01 : wv τ 0 1 = τ 0 0 0 9 := rfl
  have w02 : wv τ 0 2 = τ 0 0 0 3 := rfl
  obtain ⟨k1, k2⟩ := hk
  obtain ⟨c1, c2⟩ := hc
  obtain ⟨g1, g2⟩ := hg
  refine x_iload_n (pc' := 1) hE dX8_pack_0 rfl rfl ?_
  refine x_cS1 (pc' := 4) hE hM (okC G) hl hR (c_X8_isCell l G _ _ ⟨by omega, by omega⟩) kX8_isCell tM_X8_80 (by decide) dX8_pack_1 rfl rfl (Nat.le_of_ble_eq_true rfl) (fun σ1 e1 => ?_)
  replace e1 := e1.symm
  subst e1
  refine x_ifneB (tgt := 10) (pc' := 7) hE dX8_pack_4 (by decide) rfl (fun h2 => ?_) (fun h2 => ?_)
  · try simp only [decide_eq_true_eq, decide_eq_false_iff_not] at h2
    refine x_iload_n (pc' := 11) hE dX8_pack_10 rfl rfl ?_
    refine x_cS1 (pc' := 14) hE hM (okC G) hl hR (c_X8_isKind l G _ _ ⟨by omega, by omega⟩) kX8_isKind tM_X8_87 (by decide) dX8_pack_11 rfl rfl (Nat.le_of_ble_eq_true rfl) (fun σ3 e3 => ?_)
    replace e3 := e3.symm
    subst e3
    refine x_ifeqB (tgt := 27) (pc' := 17) hE dX8_pack_14 (by decide) rfl (fun h4 => ?_) (fun h4 => ?_)
    · try simp only [decide_eq_true_eq, decide_eq_false_iff_not] at h4
      refine x_bipush (pc' := 29) hE dX8_pack_27 rfl (by decide +kernel) ?_
      refine x_iret hE dX8_pack_29 ?_
      refine ⟨ri ?_, ?_⟩
      · first | (exfalso; omega) | skip
        all_goals unfold aPack
        all_goals repeat' split
        all_goals first | rfl | omega | (exfalso; omega)
      · first | (exfalso; omega) | skip
        all_goals unfold sPack
        all_goals repeat' split
        all_goals first | exact hC | (exfalso; omega) | (exact RC_pack (fun q => (hkk q).2.1) hC)
    · try simp only [decide_eq_true_eq, decide_eq_false_iff_not] at h4
      refine x_iload_n (pc' := 18) hE dX8_pack_17 rfl rfl ?_
      refine x_iflt (tgt := 27) (pc' := 21) hE dX8_pack_18 (by decide) rfl ⟨by omega, by omega⟩ (fun h5 => ?_) (fun h5 => ?_)
      · refine x_bipush (pc' := 29) hE dX8_pack_27 rfl (by decide +kernel) ?_
        refine x_iret hE dX8_pack_29 ?_
        refine ⟨ri ?_, ?_⟩
        · first | (exfalso; omega) | skip
          all_goals unfold aPack
          all_goals repeat' split
          all_goals first | rfl | omega | (exfalso; omega)
        · first | (exfalso; omega) | skip
          all_goals unfold sPack
          all_goals repeat' split
          all_goals first | exact hC | (exfalso; omega) | (exact RC_pack (fun q => (hkk q).2.1) hC)
      · refine x_iload_n (pc' := 22) hE dX8_pack_21 rfl rfl ?_
        refine x_bipush (pc' := 24) hE dX8_pack_22 rfl (by decide +kernel) ?_
        refine x_icmplt (tgt := 30) (pc' := 27) hE dX8_pack_24 (by decide) rfl ⟨by omega, by omega⟩ ⟨by omega, by omega⟩ (fun h6 => ?_) (fun h6 => ?_)
        · refine x_aload_n (pc' := 31) hE dX8_pack_30 rfl rfl ?_
          refine g_X8_2 (pc' := 34) hE hM tF_X8_26 dX8_pack_31 rfl ?_
          refine gN_X7_4 (pc' := 37) (by omega) hE hM (fun _ h => nF_X8_90 h) dX8_pack_34 rfl ?_
          refine x_iconst (pc' := 38) hE dX8_pack_37 rfl ?_
          refine x_icmplt (tgt := 44) (pc' := 41) hE dX8_pack_38 (by decide) rfl ⟨by omega, by omega⟩ ⟨by omega, by omega⟩ (fun h7 => ?_) (fun h7 => ?_)
          · refine x_aload_n (pc' := 45) hE dX8_pack_44 rfl rfl ?_
            refine g_X8_2 (pc' := 48) hE hM tF_X8_26 dX8_pack_45 rfl ?_
            refine gN_X7_0 (pc' := 51) (by omega) hE hM (fun _ h => nF_X8_93 h) dX8_pack_48 rfl ?_
            refine x_aload_n (pc' := 52) hE dX8_pack_51 rfl rfl ?_
            refine g_X8_2 (pc' := 55) hE hM tF_X8_26 dX8_pack_52 rfl ?_
            refine gN_X7_4 (pc' := 58) (by omega) hE hM (fun _ h => nF_X8_90 h) dX8_pack_55 rfl ?_
            rw [r1, w00]
            refine aC_7 (pc' := 59) (by omega) hE hM (by omega) (by omega) dX8_pack_58 rfl ?_
            refine x_kinds (pc' := 62) hE hM tF_X8_97 dX8_pack_59 rfl ?_
            refine x_iload_n (pc' := 63) hE dX8_pack_62 rfl rfl ?_
            refine x_kald (pc' := 64) hE hM (by omega) (by omega) dX8_pack_63 rfl ?_
            refine x_iload_n (pc' := 65) hE dX8_pack_64 rfl rfl ?_
            refine x_iload_n (pc' := 66) hE dX8_pack_65 rfl rfl ?_
            refine x_cV0 (pc' := 69) hE hM (okC G) hl hR (c_X4_become l G _ _ (by omega) _ _ _ _ (by omega) (by omega)) kX4_become tM_X8_101 (rcv_X4 (by omega) (by omega) (by omega) hM) (by decide) dX8_pack_66 rfl rfl (Nat.le_of_ble_eq_true rfl) (fun σ8 e8 => ?_)
            replace e8 := e8.symm
            subst e8
            refine x_aload_n (pc' := 70) hE dX8_pack_69 rfl rfl ?_
            refine g_X8_2 (pc' := 73) hE hM tF_X8_26 dX8_pack_70 rfl ?_
            refine x_dup (pc' := 74) hE dX8_pack_73 rfl rfl ?_
            refine gN_X7_4 (pc' := 77) (by omega) hE hM (fun _ h => nF_X8_90 h) dX8_pack_74 rfl ?_
            repeat rw [up_n (by omega)]
            rw [r1, w00]
            refine x_dup_x1 (pc' := 78) hE dX8_pack_77 rfl rfl rfl ?_
            refine x_iconst (pc' := 79) hE dX8_pack_78 rfl ?_
            refine x_iadd (pc' := 80) hE dX8_pack_79 rfl ?_
            refine pN_X7_4 (pc' := 83) (by omega) hE hM (fun _ h => nF_X8_90 h) dX8_pack_80 rfl ?_
            refine x_iret hE dX8_pack_83 ?_
            refine ⟨ri ?_, ?_⟩
            · first | (exfalso; omega) | skip
              all_goals unfold aPack
              all_goals repeat' split
              all_goals first | rfl | omega | (exfalso; omega)
            · first | (exfalso; omega) | skip
              all_goals unfold sPack
              all_goals repeat' split
              all_goals first | exact hC | (exfalso; omega) | (exact RC_pack (fun q => (hkk q).2.1) hC)
          · refine x_bipush (pc' := 43) hE dX8_pack_41 rfl (by decide +kernel) ?_
            refine x_iret hE dX8_pack_43 ?_
            refine ⟨ri ?_, ?_⟩
            · first | (exfalso; omega) | skip
              all_goals unfold aPack
              all_goals repeat' split
              all_goals first | rfl | omega | (exfalso; omega)
            · first | (exfalso; omega) | skip
              all_goals unfold sPack
              all_goals repeat' split
              all_goals first | exact hC | (exfalso; omega) | (exact RC_pack (fun q => (hkk q).2.1) hC)
        · refine x_bipush (pc' := 29) hE dX8_pack_27 rfl (by decide +kernel) ?_
          refine x_iret hE dX8_pack_29 ?_
          refine ⟨ri ?_, ?_⟩
          · first | (exfalso; omega) | skip
            all_goals unfold aPack
            all_goals repeat' split
            all_goals first | rfl | omega | (exfalso; omega)
          · first | (exfalso; omega) | skip
            all_goals unfold sPack
            all_goals repeat' split
            all_goals first | exact hC | (exfalso; omega) | (exact RC_pack (fun q => (hkk q).2.1) hC)
  · try simp only [decide_eq_true_eq, decide_eq_false_iff_not] at h2
    refine x_bipush (pc' := 9) hE dX8_pack_7 rfl (by decide +kernel) ?_
    refine x_iret hE dX8_pack_9 ?_
    refine ⟨ri ?_, ?_⟩
    · first | (exfalso; omega) | skip
      all_goals unfold aPack
      all_goals repeat' split
      all_goals first | rfl | omega | (exfalso; omega)
    · first | (exfalso; omega) | skip
      all_goals unfold sPack
      all_goals repeat' split
      all_goals first | exact hC | (exfalso; omega) | (exact RC_pack (fun q => (hkk q).2.1) hC)
set_option maxHeartbeats 4000000 in
set_option maxRecDepth 10000 in
theorem c_X8_flock (l : Launch) (G : GC) (σ : St) (τ : St) (B : Int) (hI : IM B τ) (hC : RC σ τ) (hB : B ≤ 800000) (n : Int) (hn : inR n) (c : Int) (hc : inR c) : Ct l (YC G) yX8_flock (.code yX8_flock cX8_flock 3 (some .int)) 1 [.ref (aC G 0 0 0), .int (iN n), .int (iN c)] σ (fun v σ' => v = some (.int (iN (aFlock τ n c))) ∧ RC σ' (sFlock τ n c)) := by
  refine Ct_of (own := RX8) [some (.ref (aC G 0 0 0)), some (.int (iN n)), some (.int (iN c))] rfl rfl (Nat.le_of_ble_eq_true rfl) rfl ?_
  intro E hE hM hl hR
  obtain ⟨hW, hF, hrd, hak, hpl, hpg, hwt, hfr, hsn, hso, hce, hkp, hkk⟩ := id hI
  obtain ⟨hnp, hnf, hday, hpp, hff, hcc⟩ := WT_of hW
  obtain ⟨cP, ⟨cN, hRF⟩, hRW, cS, cI, cK, cR, cA⟩ := id hC
  obtain ⟨r1, r2, r3, r4, r5, r6, r7⟩ := id hRW
  obtain ⟨p1, p2⟩ := id cP
  have w00 : wv τ 0 0 = τ 0 0 0 5 := rfl
  have w01 : wv τ 0 1 = τ 0 0 0 9 := rfl
  have w02 : wv τ 0 2 = τ 0 0 0 3 := rfl
  obtain ⟨n1, n2⟩ := hn
  obtain ⟨c1, c2⟩ := hc
  refine x_iload_n (pc' := 1) hE dX8_flock_0 rfl rfl ?_
  refine x_cS1 (pc' := 4) hE hM (okC G) hl hR (c_X8_isName l G _ _ ⟨by omega, by omega⟩) kX8_isName tM_X8_142 (by decide) dX8_flock_1 rfl rfl (Nat.le_of_ble_eq_true rfl) (fun σ1 e1 => ?_)
  replace e1 := e1.symm
  subst e1
  refine x_ifneB (tgt := 10) (pc' := 7) hE dX8_flock_4 (by decide) rfl (fun h2 => ?_) (fun h2 => ?_)
  · try simp only [decide_eq_true_eq, decide_eq_false_iff_not] at h2
    refine x_iload_n (pc' := 11) hE dX8_flock_10 rfl rfl ?_
    refine x_cS1 (pc' := 14) hE hM (okC G) hl hR (c_X8_isCell l G _ _ ⟨by omega, by omega⟩) kX8_isCell tM_X8_80 (by decide) dX8_flock_11 rfl rfl (Nat.le_of_ble_eq_true rfl) (fun σ3 e3 => ?_)
    replace e3 := e3.symm
    subst e3
    refine x_ifneB (tgt := 20) (pc' := 17) hE dX8_flock_14 (by decide) rfl (fun h4 => ?_) (fun h4 => ?_)
    · try simp only [decide_eq_true_eq, decide_eq_false_iff_not] at h4
      refine x_aload_n (pc' := 21) hE dX8_flock_20 rfl rfl ?_
      refine g_X8_2 (pc' := 24) hE hM tF_X8_26 dX8_flock_21 rfl ?_
      refine gN_X7_5 (pc' := 27) (by omega) hE hM (fun _ h => nF_X8_145 h) dX8_flock_24 rfl ?_
      refine x_iconst (pc' := 28) hE dX8_flock_27 rfl ?_
      refine x_icmplt (tgt := 34) (pc' := 31) hE dX8_flock_28 (by decide) rfl ⟨by omega, by omega⟩ ⟨by omega, by omega⟩ (fun h5 => ?_) (fun h5 => ?_)
      · refine x_aload_n (pc' := 35) hE dX8_flock_34 rfl rfl ?_
        refine g_X8_2 (pc' := 38) hE hM tF_X8_26 dX8_flock_35 rfl ?_
        refine gN_X7_1 (pc' := 41) (by omega) hE hM (fun _ h => nF_X8_148 h) dX8_flock_38 rfl ?_
        refine x_aload_n (pc' := 42) hE dX8_flock_41 rfl rfl ?_
        refine g_X8_2 (pc' := 45) hE hM tF_X8_26 dX8_flock_42 rfl ?_
        refine gN_X7_5 (pc' := 48) (by omega) hE hM (fun _ h => nF_X8_145 h) dX8_flock_45 rfl ?_
        rw [r2, w01]
        refine aC_8 (pc' := 49) (by omega) hE hM (by omega) (by omega) dX8_flock_48 rfl ?_
        refine x_iload_n (pc' := 50) hE dX8_flock_49 rfl rfl ?_
        refine x_iload_n (pc' := 51) hE dX8_flock_50 rfl rfl ?_
        refine x_cV0 (pc' := 54) hE hM (okC G) hl hR (c_X2_become l G _ _ (by omega) _ _ _ (by omega) (by omega)) kX2_become tM_X8_152 (rcv_X2 (by omega) (by omega) (by omega) hM) (by decide) dX8_flock_51 rfl rfl (Nat.le_of_ble_eq_true rfl) (fun σ6 e6 => ?_)
        replace e6 := e6.symm
        subst e6
        refine x_aload_n (pc' := 55) hE dX8_flock_54 rfl rfl ?_
        refine g_X8_2 (pc' := 58) hE hM tF_X8_26 dX8_flock_55 rfl ?_
        refine x_dup (pc' := 59) hE dX8_flock_58 rfl rfl ?_
        refine gN_X7_5 (pc' := 62) (by omega) hE hM (fun _ h => nF_X8_145 h) dX8_flock_59 rfl ?_
        repeat rw [up_n (by omega)]
        rw [r2, w01]
        refine x_dup_x1 (pc' := 63) hE dX8_flock_62 rfl rfl rfl ?_
        refine x_iconst (pc' := 64) hE dX8_flock_63 rfl ?_
        refine x_iadd (pc' := 65) hE dX8_flock_64 rfl ?_
        refine pN_X7_5 (pc' := 68) (by omega) hE hM (fun _ h => nF_X8_145 h) dX8_flock_65 rfl ?_
        refine x_iret hE dX8_flock_68 ?_
        refine ⟨ri ?_, ?_⟩
        · first | (exfalso; omega) | skip
          all_goals unfold aFlock
          all_goals repeat' split
          all_goals first | rfl | omega | (exfalso; omega)
        · first | (exfalso; omega) | skip
          all_goals unfold sFlock
          all_goals repeat' split
          all_goals first | exact hC | (exfalso; omega) | (exact RC_flock hC)
      · refine x_bipush (pc' := 33) hE dX8_flock_31 rfl (by decide +kernel) ?_
        refine x_iret hE dX8_flock_33 ?_
        refine ⟨ri ?_, ?_⟩
        · first | (exfalso; omega) | skip
          all_goals unfold aFlock
          all_goals repeat' split
          all_goals first | rfl | omega | (exfalso; omega)
        · first | (exfalso; omega) | skip
          all_goals unfold sFlock
          all_goals repeat' split
          all_goals first | exact hC | (exfalso; omega) | (exact RC_flock hC)
    · try simp only [decide_eq_true_eq, decide_eq_false_iff_not] at h4
      refine x_bipush (pc' := 19) hE dX8_flock_17 rfl (by decide +kernel) ?_
      refine x_iret hE dX8_flock_19 ?_
      refine ⟨ri ?_, ?_⟩
      · first | (exfalso; omega) | skip
        all_goals unfold aFlock
        all_goals repeat' split
        all_goals first | rfl | omega | (exfalso; omega)
      · first | (exfalso; omega) | skip
        all_goals unfold sFlock
        all_goals repeat' split
        all_goals first | exact hC | (exfalso; omega) | (exact RC_flock hC)
  · try simp only [decide_eq_true_eq, decide_eq_false_iff_not] at h2
    refine x_bipush (pc' := 9) hE dX8_flock_7 rfl (by decide +kernel) ?_
    refine x_iret hE dX8_flock_9 ?_
    refine ⟨ri ?_, ?_⟩
    · first | (exfalso; omega) | skip
      all_goals unfold aFlock
      all_goals repeat' split
      all_goals first | rfl | omega | (exfalso; omega)
    · first | (exfalso; omega) | skip
      all_goals unfold sFlock
      all_goals repeat' split
      all_goals first | exact hC | (exfalso; omega) | (exact RC_flock hC)
set_option maxHeartbeats 4000000 in
set_option maxRecDepth 10000 in
theorem c_X8_flockOf (l : Launch) (G : GC) (σ : St) (τ : St) (B : Int) (hI : IM B τ) (hC : RC σ τ) (hB : B ≤ 800000) (f : Int) (hf : inR f) (w : Int) (hw : inR w) : Ct l (YC G) yX8_flockOf (.code yX8_flockOf cX8_flockOf 4 (some .int)) 1 [.ref (aC G 0 0 0), .int (iN f), .int (iN w)] σ (fun v σ' => v = some (.int (iN (aFlockOf τ f w))) ∧ RC σ' τ) := by
  refine Ct_of (own := RX8) [some (.ref (aC G 0 0 0)), some (.int (iN f)), some (.int (iN w)), none] rfl rfl (Nat.le_of_ble_eq_true rfl) rfl ?_
  intro E hE hM hl hR
  obtain ⟨hW, hF, hrd, hak, hpl, hpg, hwt, hfr, hsn, hso, hce, hkp, hkk⟩ := id hI
  obtain ⟨hnp, hnf, hday, hpp, hff, hcc⟩ := WT_of hW
  obtain ⟨cP, ⟨cN, hRF⟩, hRW, cS, cI, cK, cR, cA⟩ := id hC
  obtain ⟨r1, r2, r3, r4, r5, r6, r7⟩ := id hRW
  obtain ⟨p1, p2⟩ := id cP
  have w00 : wv τ 0 0 = τ 0 0 0 5 := rfl
  have w01 : wv τ 0 1 = τ 0 0 0 9 := rfl
  have w02 : wv τ 0 2 = τ 0 0 0 3 := rfl
  obtain ⟨f1, f2⟩ := hf
  obtain ⟨w1, w2⟩ := hw
  refine x_aload_n (pc' := 1) hE dX8_flockOf_0 rfl rfl ?_
  refine g_X8_2 (pc' := 4) hE hM tF_X8_26 dX8_flockOf_1 rfl ?_
  refine x_iload_n (pc' := 5) hE dX8_flockOf_4 rfl rfl ?_
  refine x_cV1 (pc' := 8) hE hM (okC G) hl hR (c_X7_hasFlock l G _ _ (by omega) _ _ (by assumption) (by assumption) (by omega) _ ⟨by omega, by omega⟩) kX7_hasFlock tM_X8_157 (rcv_X7 (by omega) hM) (by decide) dX8_flockOf_5 rfl rfl (Nat.le_of_ble_eq_true rfl) (fun σ1 e1 => ?_)
  replace e1 := e1.symm
  subst e1
  refine x_ifneB (tgt := 14) (pc' := 11) hE dX8_flockOf_8 (by decide) rfl (fun h2 => ?_) (fun h2 => ?_)
  · try simp only [decide_eq_true_eq, decide_eq_false_iff_not] at h2
    have q1 := r6 f (by omega) (by omega)
    have q2 := hff f (by omega) (by omega)
    have q3 : wv τ 4 f = τ 6 0 0 f := rfl
    have q4 : wv τ 5 f = τ 7 0 0 f := rfl
    have q5 : wv τ 6 f = τ 8 0 0 f := rfl
    refine x_aload_n (pc' := 15) hE dX8_flockOf_14 rfl rfl ?_
    refine g_X8_2 (pc' := 18) hE hM tF_X8_26 dX8_flockOf_15 rfl ?_
    refine gN_X7_1 (pc' := 21) (by omega) hE hM (fun _ h => nF_X8_148 h) dX8_flockOf_18 rfl ?_
    refine x_iload_n (pc' := 22) hE dX8_flockOf_21 rfl rfl ?_
    refine aC_8 (pc' := 23) (by omega) hE hM (by omega) (by omega) dX8_flockOf_22 rfl ?_
    refine x_astore_n (pc' := 24) hE dX8_flockOf_23 rfl (by decide) rfl rfl ?_
    dsimp only [List.set]
    refine x_iload_n (pc' := 25) hE dX8_flockOf_24 rfl rfl ?_
    rcases (show w = 0 ∨ w = 1 ∨ w = 2 ∨ w = 3 ∨ (w < 0 ∨ 3 < w) by omega) with h3 | h3 | h3 | h3 | h3
    · refine x_tabIn (tgt := 56) (off := 31) hE dX8_flockOf_25 ⟨by omega, by omega⟩ (by omega) (by omega) (by rw [h3]; rfl) (by decide) ?_
      refine x_aload_n (pc' := 57) hE dX8_flockOf_56 rfl rfl ?_
      refine gN_X2_0 (pc' := 60) (by omega) (by omega) (by omega) hE hM (fun _ h => nF_X8_160 h) dX8_flockOf_57 rfl ?_
      refine x_iret hE dX8_flockOf_60 ?_
      refine ⟨ri ?_, ?_⟩
      · first | (exfalso; omega) | skip
        first | ((unfold aFlockOf flN; rw [if_neg (show ¬ ¬ (0 ≤ f ∧ f < τ 0 0 0 9) by omega), if_pos (show 0 ≤ w ∧ w ≤ 3 by omega)]; subst_vars; first | (simp; omega) | (simp; split <;> omega))) | skip
        all_goals unfold aFlockOf
        all_goals repeat' split
        all_goals first | rfl | omega | (exfalso; omega)
      · first | (exfalso; omega) | skip
        all_goals first | exact hC | (exfalso; omega) | (assumption)
    · refine x_tabIn (tgt := 61) (off := 36) hE dX8_flockOf_25 ⟨by omega, by omega⟩ (by omega) (by omega) (by rw [h3]; rfl) (by decide) ?_
      refine x_aload_n (pc' := 62) hE dX8_flockOf_61 rfl rfl ?_
      refine gN_X2_1 (pc' := 65) (by omega) (by omega) (by omega) hE hM (fun _ h => nF_X8_163 h) dX8_flockOf_62 rfl ?_
      refine x_iret hE dX8_flockOf_65 ?_
      refine ⟨ri ?_, ?_⟩
      · first | (exfalso; omega) | skip
        first | ((unfold aFlockOf flN; rw [if_neg (show ¬ ¬ (0 ≤ f ∧ f < τ 0 0 0 9) by omega), if_pos (show 0 ≤ w ∧ w ≤ 3 by omega)]; subst_vars; first | (simp; omega) | (simp; split <;> omega))) | skip
        all_goals unfold aFlockOf
        all_goals repeat' split
        all_goals first | rfl | omega | (exfalso; omega)
      · first | (exfalso; omega) | skip
        all_goals first | exact hC | (exfalso; omega) | (assumption)
    · refine x_tabIn (tgt := 66) (off := 41) hE dX8_flockOf_25 ⟨by omega, by omega⟩ (by omega) (by omega) (by rw [h3]; rfl) (by decide) ?_
      refine x_aload_n (pc' := 67) hE dX8_flockOf_66 rfl rfl ?_
      refine g_X8_2 (pc' := 70) hE hM tF_X8_26 dX8_flockOf_67 rfl ?_
      refine x_iload_n (pc' := 71) hE dX8_flockOf_70 rfl rfl ?_
      refine x_cV1 (pc' := 74) hE hM (okC G) hl hR (c_X7_isEaten l G _ _ (by omega) _ _ (by assumption) (by assumption) (by omega) _ (by omega) (by omega)) kX7_isEaten tM_X8_164 (rcv_X7 (by omega) hM) (by decide) dX8_flockOf_71 rfl rfl (Nat.le_of_ble_eq_true rfl) (fun σ4 e4 => ?_)
      replace e4 := e4.symm
      subst e4
      refine x_ifeqB (tgt := 81) (pc' := 77) hE dX8_flockOf_74 (by decide) rfl (fun h5 => ?_) (fun h5 => ?_)
      · try simp only [decide_eq_true_eq, decide_eq_false_iff_not] at h5
        have q9 := eaQ_f h5 (by omega)
        refine x_iconst (pc' := 82) hE dX8_flockOf_81 rfl ?_
        refine x_iret hE dX8_flockOf_82 ?_
        refine ⟨ri ?_, ?_⟩
        · first | (exfalso; omega) | skip
          first | ((unfold aFlockOf flN; rw [if_neg (show ¬ ¬ (0 ≤ f ∧ f < τ 0 0 0 9) by omega), if_pos (show 0 ≤ w ∧ w ≤ 3 by omega)]; subst_vars; first | (simp; omega) | (simp; split <;> omega))) | skip
          all_goals unfold aFlockOf
          all_goals repeat' split
          all_goals first | rfl | omega | (exfalso; omega)
        · first | (exfalso; omega) | skip
          all_goals first | exact hC | (exfalso; omega) | (assumption)
      · try simp only [decide_eq_true_eq, decide_eq_false_iff_not] at h5
        have q9 := eaQ_t h5
        have q10 := q1.2.2 q9.2
        refine x_iconst (pc' := 78) hE dX8_flockOf_77 rfl ?_
        refine x_goto (tgt := 82) hE dX8_flockOf_78 (by decide) ?_
        refine x_iret hE dX8_flockOf_82 ?_
        refine ⟨ri ?_, ?_⟩
        · first | (exfalso; omega) | skip
          first | ((unfold aFlockOf flN; rw [if_neg (show ¬ ¬ (0 ≤ f ∧ f < τ 0 0 0 9) by omega), if_pos (show 0 ≤ w ∧ w ≤ 3 by omega)]; subst_vars; first | (simp; omega) | (simp; split <;> omega))) | skip
          all_goals unfold aFlockOf
          all_goals repeat' split
          all_goals first | rfl | omega | (exfalso; omega)
        · first | (exfalso; omega) | skip
          all_goals first | exact hC | (exfalso; omega) | (assumption)
    · refine x_tabIn (tgt := 83) (off := 58) hE dX8_flockOf_25 ⟨by omega, by omega⟩ (by omega) (by omega) (by rw [h3]; rfl) (by decide) ?_
      refine x_aload_n (pc' := 84) hE dX8_flockOf_83 rfl rfl ?_
      refine g_X8_2 (pc' := 87) hE hM tF_X8_26 dX8_flockOf_84 rfl ?_
      refine x_iload_n (pc' := 88) hE dX8_flockOf_87 rfl rfl ?_
      refine x_cV1 (pc' := 91) hE hM (okC G) hl hR (c_X7_isEaten l G _ _ (by omega) _ _ (by assumption) (by assumption) (by omega) _ (by omega) (by omega)) kX7_isEaten tM_X8_164 (rcv_X7 (by omega) hM) (by decide) dX8_flockOf_88 rfl rfl (Nat.le_of_ble_eq_true rfl) (fun σ6 e6 => ?_)
      replace e6 := e6.symm
      subst e6
      refine x_ifeqB (tgt := 101) (pc' := 94) hE dX8_flockOf_91 (by decide) rfl (fun h7 => ?_) (fun h7 => ?_)
      · try simp only [decide_eq_true_eq, decide_eq_false_iff_not] at h7
        have q9 := eaQ_f h7 (by omega)
        refine x_iconst (pc' := 102) hE dX8_flockOf_101 rfl ?_
        refine x_iret hE dX8_flockOf_102 ?_
        refine ⟨ri ?_, ?_⟩
        · first | (exfalso; omega) | skip
          first | ((unfold aFlockOf flN; rw [if_neg (show ¬ ¬ (0 ≤ f ∧ f < τ 0 0 0 9) by omega), if_pos (show 0 ≤ w ∧ w ≤ 3 by omega)]; subst_vars; first | (simp; omega) | (simp; split <;> omega))) | skip
          all_goals unfold aFlockOf
          all_goals repeat' split
          all_goals first | rfl | omega | (exfalso; omega)
        · first | (exfalso; omega) | skip
          all_goals first | exact hC | (exfalso; omega) | (assumption)
      · try simp only [decide_eq_true_eq, decide_eq_false_iff_not] at h7
        have q9 := eaQ_t h7
        have q10 := q1.2.2 q9.2
        refine x_aload_n (pc' := 95) hE dX8_flockOf_94 rfl rfl ?_
        refine gN_X2_2 (pc' := 98) (by omega) (by omega) (by omega) hE hM (fun _ h => nF_X8_167 h) dX8_flockOf_95 rfl ?_
        refine x_goto (tgt := 102) hE dX8_flockOf_98 (by decide) ?_
        refine x_iret hE dX8_flockOf_102 ?_
        refine ⟨ri ?_, ?_⟩
        · first | (exfalso; omega) | skip
          first | ((unfold aFlockOf flN; rw [if_neg (show ¬ ¬ (0 ≤ f ∧ f < τ 0 0 0 9) by omega), if_pos (show 0 ≤ w ∧ w ≤ 3 by omega)]; subst_vars; first | (simp; omega) | (simp; split <;> omega))) | skip
          all_goals unfold aFlockOf
          all_goals repeat' split
          all_goals first | rfl | omega | (exfalso; omega)
        · first | (exfalso; omega) | skip
          all_goals first | exact hC | (exfalso; omega) | (assumption)
    · refine x_tabOut (tgt := 103) hE dX8_flockOf_25 ⟨by omega, by omega⟩ (by omega) (by decide) ?_
      refine x_bipush (pc' := 105) hE dX8_flockOf_103 rfl (by decide +kernel) ?_
      refine x_iret hE dX8_flockOf_105 ?_
      refine ⟨ri ?_, ?_⟩
      · first | (exfalso; omega) | skip
        first | ((unfold aFlockOf flN; rw [if_neg (show ¬ ¬ (0 ≤ f ∧ f < τ 0 0 0 9) by omega), if_pos (show 0 ≤ w ∧ w ≤ 3 by omega)]; subst_vars; first | (simp; omega) | (simp; split <;> omega))) | skip
        all_goals unfold aFlockOf
        all_goals repeat' split
        all_goals first | rfl | omega | (exfalso; omega)
      · first | (exfalso; omega) | skip
        all_goals first | exact hC | (exfalso; omega) | (assumption)
  · try simp only [decide_eq_true_eq, decide_eq_false_iff_not] at h2
    refine x_bipush (pc' := 13) hE dX8_flockOf_11 rfl (by decide +kernel) ?_
    refine x_iret hE dX8_flockOf_13 ?_
    refine ⟨ri ?_, ?_⟩
    · first | (exfalso; omega) | skip
      first | ((unfold aFlockOf flN; rw [if_neg (show ¬ ¬ (0 ≤ f ∧ f < τ 0 0 0 9) by omega), if_pos (show 0 ≤ w ∧ w ≤ 3 by omega)]; subst_vars; first | (simp; omega) | (simp; split <;> omega))) | skip
      all_goals unfold aFlockOf
      all_goals repeat' split
      all_goals first | rfl | omega | (exfalso; omega)
    · first | (exfalso; omega) | skip
      all_goals first | exact hC | (exfalso; omega) | (assumption)
set_option maxHeartbeats 4000000 in
set_option maxRecDepth 10000 in
theorem c_X8_name (l : Launch) (G : GC) (σ : St) (τ : St) (B : Int) (hI : IM B τ) (hC : RC σ τ) (hB : B ≤ 800000) (f : Int) (hf : inR f) (n : Int) (hn : inR n) : Ct l (YC G) yX8_name (.code yX8_name cX8_name 4 (some .int)) 2 [.ref (aC G 0 0 0), .int (iN f), .int (iN n)] σ (fun v σ' => v = some (.int (iN (aName τ f n))) ∧ RC σ' (sName τ f n)) := by
  refine Ct_of (own := RX8) [some (.ref (aC G 0 0 0)), some (.int (iN f)), some (.int (iN n)), none] rfl rfl (Nat.le_of_ble_eq_true rfl) rfl ?_
  intro E hE hM hl hR
  obtain ⟨hW, hF, hrd, hak, hpl, hpg, hwt, hfr, hsn, hso, hce, hkp, hkk⟩ := id hI
  obtain ⟨hnp, hnf, hday, hpp, hff, hcc⟩ := WT_of hW
  obtain ⟨cP, ⟨cN, hRF⟩, hRW, cS, cI, cK, cR, cA⟩ := id hC
  obtain ⟨r1, r2, r3, r4, r5, r6, r7⟩ := id hRW
  obtain ⟨p1, p2⟩ := id cP
  have w00 : wv τ 0 0 = τ 0 0 0 5 := rfl
  have w01 : wv τ 0 1 = τ 0 0 0 9 := rfl
  have w02 : wv τ 0 2 = τ 0 0 0 3 := rfl
  obtain ⟨f1, f2⟩ := hf
  obtain ⟨n1, n2⟩ := hn
  have e6 : wv τ 6 f = τ 8 0 0 f := rfl
  refine x_aload_n (pc' := 1) hE dX8_name_0 rfl rfl ?_
  refine g_X8_2 (pc' := 4) hE hM tF_X8_26 dX8_name_1 rfl ?_
  refine x_iload_n (pc' := 5) hE dX8_name_4 rfl rfl ?_
  refine x_cV1 (pc' := 8) hE hM (okC G) hl hR (c_X7_isGrazing l G _ _ (by omega) _ _ hRW hW (by omega) _ ⟨by omega, by omega⟩) kX7_isGrazing tM_X8_170 (rcv_X7 (by omega) hM) (by decide) dX8_name_5 rfl rfl (Nat.le_of_ble_eq_true rfl) (fun σ1 e1 => ?_)
  replace e1 := e1.symm
  subst e1
  refine x_ifneB (tgt := 14) (pc' := 11) hE dX8_name_8 (by decide) rfl (fun h2 => ?_) (fun h2 => ?_)
  · try simp only [decide_eq_true_eq, decide_eq_false_iff_not] at h2
    refine x_iload_n (pc' := 15) hE dX8_name_14 rfl rfl ?_
    refine x_cS1 (pc' := 18) hE hM (okC G) hl hR (c_X8_isName l G _ _ ⟨by omega, by omega⟩) kX8_isName tM_X8_142 (by decide) dX8_name_15 rfl rfl (Nat.le_of_ble_eq_true rfl) (fun σ3 e3 => ?_)
    replace e3 := e3.symm
    subst e3
    refine x_ifneB (tgt := 24) (pc' := 21) hE dX8_name_18 (by decide) rfl (fun h4 => ?_) (fun h4 => ?_)
    · try simp only [decide_eq_true_eq, decide_eq_false_iff_not] at h4
      have q1 := r6 f (by omega) (by omega)
      have q2 := hff f (by omega) (by omega)
      have q3 : wv τ 4 f = τ 6 0 0 f := rfl
      have q4 : wv τ 5 f = τ 7 0 0 f := rfl
      have q5 : wv τ 6 f = τ 8 0 0 f := rfl
      refine x_aload_n (pc' := 25) hE dX8_name_24 rfl rfl ?_
      refine g_X8_2 (pc' := 28) hE hM tF_X8_26 dX8_name_25 rfl ?_
      refine gN_X7_1 (pc' := 31) (by omega) hE hM (fun _ h => nF_X8_148 h) dX8_name_28 rfl ?_
      refine x_iload_n (pc' := 32) hE dX8_name_31 rfl rfl ?_
      refine aC_8 (pc' := 33) (by omega) hE hM (by omega) (by omega) dX8_name_32 rfl ?_
      refine gN_X2_0 (pc' := 36) (by omega) (by omega) (by omega) hE hM (fun _ h => nF_X8_160 h) dX8_name_33 rfl ?_
      refine x_istore_n (pc' := 37) hE dX8_name_36 rfl (by decide) rfl rfl ?_
      dsimp only [List.set]
      refine x_aload_n (pc' := 38) hE dX8_name_37 rfl rfl ?_
      refine g_X8_2 (pc' := 41) hE hM tF_X8_26 dX8_name_38 rfl ?_
      refine gN_X7_1 (pc' := 44) (by omega) hE hM (fun _ h => nF_X8_148 h) dX8_name_41 rfl ?_
      refine x_iload_n (pc' := 45) hE dX8_name_44 rfl rfl ?_
      refine aC_8 (pc' := 46) (by omega) hE hM (by omega) (by omega) dX8_name_45 rfl ?_
      refine x_iload_n (pc' := 47) hE dX8_name_46 rfl rfl ?_
      refine pN_X2_0 (pc' := 50) (by omega) (by omega) (by omega) hE hM (fun _ h => nF_X8_160 h) dX8_name_47 rfl ?_
      refine x_iload_n (pc' := 51) hE dX8_name_50 rfl rfl ?_
      refine x_iret hE dX8_name_51 ?_
      refine ⟨ri ?_, ?_⟩
      · first | (exfalso; omega) | skip
        all_goals unfold aName
        all_goals repeat' split
        all_goals first | rfl | omega | (exfalso; omega)
      · first | (exfalso; omega) | skip
        all_goals unfold sName
        all_goals repeat' split
        all_goals first | exact hC | (exfalso; omega) | (exact RC_name hC)
    · try simp only [decide_eq_true_eq, decide_eq_false_iff_not] at h4
      refine x_bipush (pc' := 23) hE dX8_name_21 rfl (by decide +kernel) ?_
      refine x_iret hE dX8_name_23 ?_
      refine ⟨ri ?_, ?_⟩
      · first | (exfalso; omega) | skip
        all_goals unfold aName
        all_goals repeat' split
        all_goals first | rfl | omega | (exfalso; omega)
      · first | (exfalso; omega) | skip
        all_goals unfold sName
        all_goals repeat' split
        all_goals first | exact hC | (exfalso; omega) | (exact RC_name hC)
  · try simp only [decide_eq_true_eq, decide_eq_false_iff_not] at h2
    refine x_bipush (pc' := 13) hE dX8_name_11 rfl (by decide +kernel) ?_
    refine x_iret hE dX8_name_13 ?_
    refine ⟨ri ?_, ?_⟩
    · first | (exfalso; omega) | skip
      all_goals unfold aName
      all_goals repeat' split
      all_goals first | rfl | omega | (exfalso; omega)
    · first | (exfalso; omega) | skip
      all_goals unfold sName
      all_goals repeat' split
      all_goals first | exact hC | (exfalso; omega) | (exact RC_name hC)
set_option maxHeartbeats 4000000 in
set_option maxRecDepth 10000 in
theorem c_X8_move (l : Launch) (G : GC) (σ : St) (τ : St) (B : Int) (hI : IM B τ) (hC : RC σ τ) (hB : B ≤ 800000) (f : Int) (hf : inR f) (c : Int) (hc : inR c) : Ct l (YC G) yX8_move (.code yX8_move cX8_move 4 (some .int)) 2 [.ref (aC G 0 0 0), .int (iN f), .int (iN c)] σ (fun v σ' => v = some (.int (iN (aMove τ f c))) ∧ RC σ' (sMove τ f c)) := by
  refine Ct_of (own := RX8) [some (.ref (aC G 0 0 0)), some (.int (iN f)), some (.int (iN c)), none] rfl rfl (Nat.le_of_ble_eq_true rfl) rfl ?_
  intro E hE hM hl hR
  obtain ⟨hW, hF, hrd, hak, hpl, hpg, hwt, hfr, hsn, hso, hce, hkp, hkk⟩ := id hI
  obtain ⟨hnp, hnf, hday, hpp, hff, hcc⟩ := WT_of hW
  obtain ⟨cP, ⟨cN, hRF⟩, hRW, cS, cI, cK, cR, cA⟩ := id hC
  obtain ⟨r1, r2, r3, r4, r5, r6, r7⟩ := id hRW
  obtain ⟨p1, p2⟩ := id cP
  have w00 : wv τ 0 0 = τ 0 0 0 5 := rfl
  have w01 : wv τ 0 1 = τ 0 0 0 9 := rfl
  have w02 : wv τ 0 2 = τ 0 0 0 3 := rfl
  obtain ⟨f1, f2⟩ := hf
  obtain ⟨c1, c2⟩ := hc
  have e6 : wv τ 6 f = τ 8 0 0 f := rfl
  refine x_aload_n (pc' := 1) hE dX8_move_0 rfl rfl ?_
  refine g_X8_2 (pc' := 4) hE hM tF_X8_26 dX8_move_1 rfl ?_
  refine x_iload_n (pc' := 5) hE dX8_move_4 rfl rfl ?_
  refine x_cV1 (pc' := 8) hE hM (okC G) hl hR (c_X7_isGrazing l G _ _ (by omega) _ _ hRW hW (by omega) _ ⟨by omega, by omega⟩) kX7_isGrazing tM_X8_170 (rcv_X7 (by omega) hM) (by decide) dX8_move_5 rfl rfl (Nat.le_of_ble_eq_true rfl) (fun σ1 e1 => ?_)
  replace e1 := e1.symm
  subst e1
  refine x_ifeqB (tgt := 18) (pc' := 11) hE dX8_move_8 (by decide) rfl (fun h2 => ?_) (fun h2 => ?_)
  · try simp only [decide_eq_true_eq, decide_eq_false_iff_not] at h2
    refine x_bipush (pc' := 20) hE dX8_move_18 rfl (by decide +kernel) ?_
    refine x_iret hE dX8_move_20 ?_
    refine ⟨ri ?_, ?_⟩
    · first | (exfalso; omega) | skip
      all_goals unfold aMove
      all_goals repeat' split
      all_goals first | rfl | omega | (exfalso; omega)
    · first | (exfalso; omega) | skip
      all_goals unfold sMove
      all_goals repeat' split
      all_goals first | exact hC | (exfalso; omega) | (exact RC_move hC)
  · try simp only [decide_eq_true_eq, decide_eq_false_iff_not] at h2
    refine x_iload_n (pc' := 12) hE dX8_move_11 rfl rfl ?_
    refine x_cS1 (pc' := 15) hE hM (okC G) hl hR (c_X8_isCell l G _ _ ⟨by omega, by omega⟩) kX8_isCell tM_X8_80 (by decide) dX8_move_12 rfl rfl (Nat.le_of_ble_eq_true rfl) (fun σ3 e3 => ?_)
    replace e3 := e3.symm
    subst e3
    refine x_ifneB (tgt := 21) (pc' := 18) hE dX8_move_15 (by decide) rfl (fun h4 => ?_) (fun h4 => ?_)
    · try simp only [decide_eq_true_eq, decide_eq_false_iff_not] at h4
      have q1 := r6 f (by omega) (by omega)
      have q2 := hff f (by omega) (by omega)
      have q3 : wv τ 4 f = τ 6 0 0 f := rfl
      have q4 : wv τ 5 f = τ 7 0 0 f := rfl
      have q5 : wv τ 6 f = τ 8 0 0 f := rfl
      refine x_aload_n (pc' := 22) hE dX8_move_21 rfl rfl ?_
      refine g_X8_2 (pc' := 25) hE hM tF_X8_26 dX8_move_22 rfl ?_
      refine gN_X7_1 (pc' := 28) (by omega) hE hM (fun _ h => nF_X8_148 h) dX8_move_25 rfl ?_
      refine x_iload_n (pc' := 29) hE dX8_move_28 rfl rfl ?_
      refine aC_8 (pc' := 30) (by omega) hE hM (by omega) (by omega) dX8_move_29 rfl ?_
      refine gN_X2_1 (pc' := 33) (by omega) (by omega) (by omega) hE hM (fun _ h => nF_X8_163 h) dX8_move_30 rfl ?_
      refine x_istore_n (pc' := 34) hE dX8_move_33 rfl (by decide) rfl rfl ?_
      dsimp only [List.set]
      refine x_aload_n (pc' := 35) hE dX8_move_34 rfl rfl ?_
      refine g_X8_2 (pc' := 38) hE hM tF_X8_26 dX8_move_35 rfl ?_
      refine gN_X7_1 (pc' := 41) (by omega) hE hM (fun _ h => nF_X8_148 h) dX8_move_38 rfl ?_
      refine x_iload_n (pc' := 42) hE dX8_move_41 rfl rfl ?_
      refine aC_8 (pc' := 43) (by omega) hE hM (by omega) (by omega) dX8_move_42 rfl ?_
      refine x_iload_n (pc' := 44) hE dX8_move_43 rfl rfl ?_
      refine pN_X2_1 (pc' := 47) (by omega) (by omega) (by omega) hE hM (fun _ h => nF_X8_163 h) dX8_move_44 rfl ?_
      refine x_iload_n (pc' := 48) hE dX8_move_47 rfl rfl ?_
      refine x_iret hE dX8_move_48 ?_
      refine ⟨ri ?_, ?_⟩
      · first | (exfalso; omega) | skip
        all_goals unfold aMove
        all_goals repeat' split
        all_goals first | rfl | omega | (exfalso; omega)
      · first | (exfalso; omega) | skip
        all_goals unfold sMove
        all_goals repeat' split
        all_goals first | exact hC | (exfalso; omega) | (exact RC_move hC)
    · try simp only [decide_eq_true_eq, decide_eq_false_iff_not] at h4
      refine x_bipush (pc' := 20) hE dX8_move_18 rfl (by decide +kernel) ?_
      refine x_iret hE dX8_move_20 ?_
      refine ⟨ri ?_, ?_⟩
      · first | (exfalso; omega) | skip
        all_goals unfold aMove
        all_goals repeat' split
        all_goals first | rfl | omega | (exfalso; omega)
      · first | (exfalso; omega) | skip
        all_goals unfold sMove
        all_goals repeat' split
        all_goals first | exact hC | (exfalso; omega) | (exact RC_move hC)
set_option maxHeartbeats 4000000 in
set_option maxRecDepth 10000 in
theorem c_X8_day (l : Launch) (G : GC) (σ : St) (τ : St) (B : Int) (hI : IM B τ) (hC : RC σ τ) (hB : B ≤ 800000) : Ct l (YC G) yX8_day (.code yX8_day cX8_day 1 (some .int)) 4 [.ref (aC G 0 0 0)] σ (fun v σ' => v = some (.int (iN (aDay τ))) ∧ RC σ' (goT τ)) := by
  refine Ct_of (own := RX8) [some (.ref (aC G 0 0 0))] rfl rfl (Nat.le_of_ble_eq_true rfl) rfl ?_
  intro E hE hM hl hR
  obtain ⟨hW, hF, hrd, hak, hpl, hpg, hwt, hfr, hsn, hso, hce, hkp, hkk⟩ := id hI
  obtain ⟨hnp, hnf, hday, hpp, hff, hcc⟩ := WT_of hW
  obtain ⟨cP, ⟨cN, hRF⟩, hRW, cS, cI, cK, cR, cA⟩ := id hC
  obtain ⟨r1, r2, r3, r4, r5, r6, r7⟩ := id hRW
  obtain ⟨p1, p2⟩ := id cP
  have w00 : wv τ 0 0 = τ 0 0 0 5 := rfl
  have w01 : wv τ 0 1 = τ 0 0 0 9 := rfl
  have w02 : wv τ 0 2 = τ 0 0 0 3 := rfl
  refine x_aload_n (pc' := 1) hE dX8_day_0 rfl rfl ?_
  refine g_X8_2 (pc' := 4) hE hM tF_X8_26 dX8_day_1 rfl ?_
  refine x_aload_n (pc' := 5) hE dX8_day_4 rfl rfl ?_
  refine g_X8_1 (pc' := 8) hE hM tF_X8_19 dX8_day_5 rfl ?_
  refine x_cV1 (pc' := 11) hE hM (okC G) hl hR (c_X7_passDay l G _ _ (by omega) _ _ hRW hW (by omega) _ hRF) kX7_passDay tM_X8_173 (rcv_X7 (by omega) hM) (by decide) dX8_day_8 rfl rfl (Nat.le_of_ble_eq_true rfl) (fun σ1 e1 => ?_)
  obtain ⟨hW1, hf1⟩ := e1
  refine x_iret hE dX8_day_11 ?_
  exact ⟨rfl, RC_day hC hW1 hf1⟩
