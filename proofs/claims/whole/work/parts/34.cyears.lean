def FrY (σ σ' : St) : Prop := ∀ a b c d, ¬ (b = 2 ∧ 6 ≤ a) → a ≠ 5 → σ' a b c d = σ a b c d
theorem FrY.trans {a b c : St} (h1 : FrY a b) (h2 : FrY b c) : FrY a c := fun k i x y q q5 => (h2 k i x y q q5).trans (h1 k i x y q q5)
theorem FrA.y {a b : St} (h : FrA 2 a b) : FrY a b := fun k i x y q _ => h k i x y q
theorem FrY_sd (S : St) (v : Int) : FrY S (up S 5 0 0 0 v) := fun a b c d _ q => up_n (by omega)
theorem FrY.rf {σ σ' : St} {F : Int → Bool} (h : FrY σ σ') (hF : RF σ F) : RF σ' F := hF.u (fun d => h _ _ _ _ (by omega) (by omega))
theorem RC.tryY {σ σ' τ : St} (hC : RC σ τ) (h : FrY σ σ') : RC σ' τ := by
  obtain ⟨cP, ⟨cN, cF⟩, cW, cS, cI, cK, cR, cA⟩ := hC
  refine ⟨cP.u (h _ _ _ _ (by omega) (by omega)) (fun k => h _ _ _ _ (by omega) (by omega)), ⟨by rw [h _ _ _ _ (by omega) (by omega)]; exact cN, cF.u (fun d => h _ _ _ _ (by omega) (by omega))⟩, cW.u (fun a c d q => h _ _ _ _ (by omega) (by omega)), cS.u (fun d => h _ _ _ _ (by omega) (by omega)), by rw [h _ _ _ _ (by omega) (by omega)]; exact cI, fun q => ⟨(cK q).1.u (fun a c d q => h _ _ _ _ (by omega) (by omega)), (cK q).2.u (fun d => h _ _ _ _ (by omega) (by omega))⟩, by rw [h _ _ _ _ (by omega) (by omega)]; exact cR, by rw [h _ _ _ _ (by omega) (by omega)]; exact cA⟩
theorem RW_sd {S : St} {W : Wd} {v : Int} (h : RW S 2 W) : RW (up S 5 0 0 0 v) 2 W := h.u (fun a c d q => up_n (by omega))
set_option maxHeartbeats 4000000 in
set_option maxRecDepth 10000 in
theorem c_X8_years (l : Launch) (G : GC) (σ : St) (τ : St) (B : Int) (hI : IM B τ) (hC : RC σ τ) (hB : B ≤ 800000) (d : Int) (hd : inR d) (s : Int) (hs : inR s) (w : Int) (hw : inR w) : Ct l (YC G) yX8_years (.code yX8_years cX8_years 6 (some .int)) 4 [.ref (aC G 0 0 0), .int (iN d), .int (iN s), .int (iN w)] σ (fun v σ' => v = some (.int (iN (aYears τ d s w))) ∧ RC σ' τ) := by
  refine Ct_of (own := RX8) [some (.ref (aC G 0 0 0)), some (.int (iN d)), some (.int (iN s)), some (.int (iN w)), none, none] rfl rfl (Nat.le_of_ble_eq_true rfl) rfl ?_
  intro E hE hM hl hR
  obtain ⟨hW, hF, hrd, hak, hpl, hpg, hwt, hfr, hsn, hso, hce, hkp, hkk⟩ := id hI
  obtain ⟨hnp, hnf, hday, hpp, hff, hcc⟩ := WT_of hW
  obtain ⟨cP, ⟨cN, hRF⟩, hRW, cS, cI, cK, cR, cA⟩ := id hC
  obtain ⟨r1, r2, r3, r4, r5, r6, r7⟩ := id hRW
  obtain ⟨p1, p2⟩ := id cP
  have w00 : wv τ 0 0 = τ 0 0 0 5 := rfl
  have w01 : wv τ 0 1 = τ 0 0 0 9 := rfl
  have w02 : wv τ 0 2 = τ 0 0 0 3 := rfl
  obtain ⟨d1, d2⟩ := hd
  obtain ⟨s1, s2⟩ := hs
  obtain ⟨w1, w2⟩ := hw
  have loop : ∀ (n : Nat) (k : Nat) (S : St), (1 ≤ d ∧ d ≤ 60) ∧ 0 ≤ s ∧ 0 ≤ w ∧ w ≤ 1 → FrY σ S → RW S 2 (yrN (fv τ) (wv τ, s) k).1 → WOk (B + k) (yrN (fv τ) (wv τ, s) k).1 → 0 ≤ S 5 0 0 0 ∧ S 5 0 0 0 < 2147483648 → S 5 0 0 0 = (yrN (fv τ) (wv τ, s) k).2 → (k : Int) ≤ d → d - k = n → VV E 6 (AS (YC G)) (Qm (YC G) (fun v σ' => v = some (.int (iN (aYears τ d s w))) ∧ RC σ' τ) E) (Rh (YC G) (S)) 43 [some (.ref (aC G 0 0 0)), some (.int (iN d)), some (.int (iN s)), some (.int (iN w)), some (.int (iN ((k : Nat) : Int))), none] [] := by
    intro n
    induction n using Nat.strongRecOn with
    | _ n ih =>
    intro k S hy0 hf hS hWS hsd hy2 g1 g2
    have hFS := hf.rf hRF
    have hgn : yrN (fv τ) (wv τ, s) (k + 1) = yrS (fv τ) (yrN (fv τ) (wv τ, s) k) := rfl
    generalize hYk : yrN (fv τ) (wv τ, s) k = Y at *
    have b1 := sdN_bd (S 5 0 0 0)
    have u1 : up S 5 0 0 0 (sdN (S 5 0 0 0)) 5 0 0 0 = sdN (S 5 0 0 0) := up_s _ _ _ _ _ _
    have hS1 := RW_sd (v := sdN (S 5 0 0 0)) hS
    have hf1 := hf.trans (FrY_sd S (sdN (S 5 0 0 0)))
    generalize hz1 : up S 5 0 0 0 (sdN (S 5 0 0 0)) = S1 at *
    have hF1 := hf1.rf hRF
    have b2 := sdN_bd (S1 5 0 0 0)
    have u2 : up S1 5 0 0 0 (sdN (S1 5 0 0 0)) 5 0 0 0 = sdN (S1 5 0 0 0) := up_s _ _ _ _ _ _
    have hS2 := RW_sd (v := sdN (S1 5 0 0 0)) hS1
    have hf2 := hf1.trans (FrY_sd S1 (sdN (S1 5 0 0 0)))
    generalize hz2 : up S1 5 0 0 0 (sdN (S1 5 0 0 0)) = S2 at *
    have b3 := sdN_bd (S2 5 0 0 0)
    have u3 : up S2 5 0 0 0 (sdN (S2 5 0 0 0)) 5 0 0 0 = sdN (S2 5 0 0 0) := up_s _ _ _ _ _ _
    have hS3 := RW_sd (v := sdN (S2 5 0 0 0)) hS2
    have hf3 := hf2.trans (FrY_sd S2 (sdN (S2 5 0 0 0)))
    generalize hz3 : up S2 5 0 0 0 (sdN (S2 5 0 0 0)) = S3 at *
    have hS4 := RW_forge (c := sdN (S1 5 0 0 0) / 65536 % 8) (d := sdN (S2 5 0 0 0) / 65536 % 30) hS3
    have hf4 := hf3.trans (show FrY S3 (up S3 9 2 0 (sdN (S1 5 0 0 0) / 65536 % 8) (sdN (S2 5 0 0 0) / 65536 % 30)) from fun a b c x q q5 => up_n (by omega))
    have u4 : up S3 9 2 0 (sdN (S1 5 0 0 0) / 65536 % 8) (sdN (S2 5 0 0 0) / 65536 % 30) 5 0 0 0 = sdN (S2 5 0 0 0) := by rw [up_n (by omega)]; exact u3
    have hW4 : WOk (B + k) (wu Y.1 7 (sdN (S1 5 0 0 0) / 65536 % 8) (sdN (S2 5 0 0 0) / 65536 % 30)) := wu7_ok hWS (by omega) (by omega)
    generalize hz4 : up S3 9 2 0 (sdN (S1 5 0 0 0) / 65536 % 8) (sdN (S2 5 0 0 0) / 65536 % 30) = S4 at *
    have hF4 := hf4.rf hRF
    refine x_iload (pc' := 45) hE dX8_years_43 rfl rfl ?_
    refine x_iload_n (pc' := 46) hE dX8_years_45 rfl rfl ?_
    refine x_icmpge (tgt := 112) (pc' := 49) hE dX8_years_46 (by decide) rfl ⟨by omega, by omega⟩ ⟨by omega, by omega⟩ (fun h1 => ?_) (fun h1 => ?_)
    · refine x_iload_n (pc' := 113) hE dX8_years_112 rfl rfl ?_
      refine x_ifne (tgt := 126) (pc' := 116) hE dX8_years_113 (by decide) rfl ⟨by omega, by omega⟩ (fun h2 => ?_) (fun h2 => ?_)
      · refine x_aload_n (pc' := 127) hE dX8_years_126 rfl rfl ?_
        refine g_X8_5 (pc' := 130) hE hM tF_X8_39 dX8_years_127 rfl ?_
        refine gN_X0_0 (pc' := 133) hE hM (fun _ h => nF_X8_231 h) dX8_years_130 rfl ?_
        refine x_l2i (pc' := 134) hE dX8_years_133 rfl ?_
        refine x_iret hE dX8_years_134 ?_
        have e : k = d.toNat := by omega
        subst e
        refine ⟨ri ?_, hC.tryY hf⟩
        unfold aYears
        rw [if_pos hy0, hYk]
        rw [if_neg h2, hy2]
      · refine x_aload_n (pc' := 117) hE dX8_years_116 rfl rfl ?_
        refine g_X8_4 (pc' := 120) hE hM tF_X8_33 dX8_years_117 rfl ?_
        refine x_cV1 (pc' := 123) hE hM (okC G) hl hR (c_X7_eatenInAll l G _ _ (by omega) _ _ hS hWS (by omega)) kX7_eatenInAll tM_X8_238 (rcv_X7 (by omega) hM) (by decide) dX8_years_120 rfl rfl (Nat.le_of_ble_eq_true rfl) (fun σ3 e3 => ?_)
        replace e3 := e3.symm
        subst e3
        refine x_goto (tgt := 134) hE dX8_years_123 (by decide) ?_
        refine x_iret hE dX8_years_134 ?_
        have e : k = d.toNat := by omega
        subst e
        refine ⟨ri ?_, hC.tryY hf⟩
        unfold aYears
        rw [if_pos hy0, hYk]
        rw [if_pos h2]
    · refine x_aload_n (pc' := 50) hE dX8_years_49 rfl rfl ?_
      refine g_X8_5 (pc' := 53) hE hM tF_X8_39 dX8_years_50 rfl ?_
      refine x_cV1 (pc' := 56) hE hM (okC G) hl hR (c_X0_next l G _ (by omega) (by omega)) kX0_next tM_X8_235 (rcv_X0 hM) (by decide) dX8_years_53 rfl rfl (Nat.le_of_ble_eq_true rfl) (fun σ4 e4 => ?_)
      replace e4 := e4.symm
      subst e4
      rw [hz1]
      refine x_bipush (pc' := 58) hE dX8_years_56 rfl (by decide +kernel) ?_
      refine x_irem (pc' := 59) hE dX8_years_58 rfl (by omega) (by omega) (by omega) (by omega) ?_
      refine x_ifne (tgt := 94) (pc' := 62) hE dX8_years_59 (by decide) rfl ⟨by omega, by omega⟩ (fun h5 => ?_) (fun h5 => ?_)
      · refine x_aload_n (pc' := 95) hE dX8_years_94 rfl rfl ?_
        refine g_X8_4 (pc' := 98) hE hM tF_X8_33 dX8_years_95 rfl ?_
        refine x_aload_n (pc' := 99) hE dX8_years_98 rfl rfl ?_
        refine g_X8_1 (pc' := 102) hE hM tF_X8_19 dX8_years_99 rfl ?_
        refine x_cV1 (pc' := 105) hE hM (okC G) hl hR (c_X7_passDay l G _ _ (by omega) _ _ hS1 hWS (by omega) _ hF1) kX7_passDay tM_X8_173 (rcv_X7 (by omega) hM) (by decide) dX8_years_102 rfl rfl (Nat.le_of_ble_eq_true rfl) (fun σ6 e6 => ?_)
        obtain ⟨hSd, hfd⟩ := e6
        have hfe := hf1.trans hfd.fa.y
        have ud := hfd 5 0 0 0 (by omega)
        refine x_pop (pc' := 106) hE dX8_years_105 rfl rfl ?_
        refine x_iinc (pc' := 109) hE dX8_years_106 rfl rfl (by decide) rfl rfl ?_
        dsimp only [List.set]
        refine x_goto (tgt := 43) hE dX8_years_109 (by decide) ?_
        have hq : yrS (fv τ) Y = (goD (fv τ) Y.1, sdN (S 5 0 0 0)) := by
          unfold yrS
          rw [← hy2, if_neg h5]
        refine ih (n - 1) (by omega) (k + 1) _ hy0 hfe (by rw [hgn, hq]; exact hSd) (by rw [hgn, hq]; exact WOk_mono (goD_ok hWS) (by omega)) (by rw [ud, u1]; omega) (by rw [hgn, hq, ud, u1]) (by omega) (by omega)
      · refine x_aload_n (pc' := 63) hE dX8_years_62 rfl rfl ?_
        refine g_X8_5 (pc' := 66) hE hM tF_X8_39 dX8_years_63 rfl ?_
        refine x_cV1 (pc' := 69) hE hM (okC G) hl hR (c_X0_next l G _ (by omega) (by omega)) kX0_next tM_X8_235 (rcv_X0 hM) (by decide) dX8_years_66 rfl rfl (Nat.le_of_ble_eq_true rfl) (fun σ7 e7 => ?_)
        replace e7 := e7.symm
        subst e7
        rw [hz2]
        refine x_bipush (pc' := 71) hE dX8_years_69 rfl (by decide +kernel) ?_
        refine x_irem (pc' := 72) hE dX8_years_71 rfl (by omega) (by omega) (by omega) (by omega) ?_
        refine x_istore (pc' := 74) hE dX8_years_72 rfl (by decide) rfl rfl ?_
        dsimp only [List.set]
        refine x_aload_n (pc' := 75) hE dX8_years_74 rfl rfl ?_
        refine g_X8_4 (pc' := 78) hE hM tF_X8_33 dX8_years_75 rfl ?_
        refine gN_X7_2 (pc' := 81) (by omega) hE hM (fun _ h => nF_X8_83 h) dX8_years_78 rfl ?_
        refine x_iload (pc' := 83) hE dX8_years_81 rfl rfl ?_
        refine x_aload_n (pc' := 84) hE dX8_years_83 rfl rfl ?_
        refine g_X8_5 (pc' := 87) hE hM tF_X8_39 dX8_years_84 rfl ?_
        refine x_cV1 (pc' := 90) hE hM (okC G) hl hR (c_X0_next l G _ (by omega) (by omega)) kX0_next tM_X8_235 (rcv_X0 hM) (by decide) dX8_years_87 rfl rfl (Nat.le_of_ble_eq_true rfl) (fun σ8 e8 => ?_)
        replace e8 := e8.symm
        subst e8
        rw [hz3]
        refine x_bipush (pc' := 92) hE dX8_years_90 rfl (by decide +kernel) ?_
        refine x_irem (pc' := 93) hE dX8_years_92 rfl (by omega) (by omega) (by omega) (by omega) ?_
        refine sC_9 (pc' := 94) (by omega) hE hM (by omega) (by omega) dX8_years_93 rfl ?_
        rw [hz4]
        refine x_aload_n (pc' := 95) hE dX8_years_94 rfl rfl ?_
        refine g_X8_4 (pc' := 98) hE hM tF_X8_33 dX8_years_95 rfl ?_
        refine x_aload_n (pc' := 99) hE dX8_years_98 rfl rfl ?_
        refine g_X8_1 (pc' := 102) hE hM tF_X8_19 dX8_years_99 rfl ?_
        refine x_cV1 (pc' := 105) hE hM (okC G) hl hR (c_X7_passDay l G _ _ (by omega) _ _ hS4 hW4 (by omega) _ hF4) kX7_passDay tM_X8_173 (rcv_X7 (by omega) hM) (by decide) dX8_years_102 rfl rfl (Nat.le_of_ble_eq_true rfl) (fun σ9 e9 => ?_)
        obtain ⟨hSd, hfd⟩ := e9
        have hfe := hf4.trans hfd.fa.y
        have ud := hfd 5 0 0 0 (by omega)
        refine x_pop (pc' := 106) hE dX8_years_105 rfl rfl ?_
        refine x_iinc (pc' := 109) hE dX8_years_106 rfl rfl (by decide) rfl rfl ?_
        dsimp only [List.set]
        refine x_goto (tgt := 43) hE dX8_years_109 (by decide) ?_
        have hq : yrS (fv τ) Y = (goD (fv τ) (wu Y.1 7 (sdN (S1 5 0 0 0) / 65536 % 8) (sdN (S2 5 0 0 0) / 65536 % 30)), sdN (S2 5 0 0 0)) := by
          unfold yrS
          rw [← hy2, ← u1, ← u2, if_pos (by rw [u1]; exact h5)]
        refine x_fg5 ?_
        refine ih (n - 1) (by omega) (k + 1) _ hy0 hfe (by rw [hgn, hq]; exact hSd) (by rw [hgn, hq]; exact WOk_mono (goD_ok hW4) (by omega)) (by rw [ud, u4]; omega) (by rw [hgn, hq, ud, u4]) (by omega) (by omega)
  refine x_iload_n (pc' := 1) hE dX8_years_0 rfl rfl ?_
  refine x_iconst (pc' := 2) hE dX8_years_1 rfl ?_
  refine x_icmplt (tgt := 24) (pc' := 5) hE dX8_years_2 (by decide) rfl ⟨by omega, by omega⟩ ⟨by omega, by omega⟩ (fun h10 => ?_) (fun h10 => ?_)
  · refine x_bipush (pc' := 26) hE dX8_years_24 rfl (by decide +kernel) ?_
    refine x_iret hE dX8_years_26 ?_
    refine ⟨ri ?_, ?_⟩
    · first | (exfalso; omega) | skip
      all_goals unfold aYears
      all_goals repeat' split
      all_goals first | rfl | omega | (exfalso; omega)
    · first | (exfalso; omega) | skip
      all_goals first | exact hC | (exfalso; omega) | (assumption)
  · refine x_iload_n (pc' := 6) hE dX8_years_5 rfl rfl ?_
    refine x_bipush (pc' := 8) hE dX8_years_6 rfl (by decide +kernel) ?_
    refine x_icmpgt (tgt := 24) (pc' := 11) hE dX8_years_8 (by decide) rfl ⟨by omega, by omega⟩ ⟨by omega, by omega⟩ (fun h11 => ?_) (fun h11 => ?_)
    · refine x_bipush (pc' := 26) hE dX8_years_24 rfl (by decide +kernel) ?_
      refine x_iret hE dX8_years_26 ?_
      refine ⟨ri ?_, ?_⟩
      · first | (exfalso; omega) | skip
        all_goals unfold aYears
        all_goals repeat' split
        all_goals first | rfl | omega | (exfalso; omega)
      · first | (exfalso; omega) | skip
        all_goals first | exact hC | (exfalso; omega) | (assumption)
    · refine x_iload_n (pc' := 12) hE dX8_years_11 rfl rfl ?_
      refine x_iflt (tgt := 24) (pc' := 15) hE dX8_years_12 (by decide) rfl ⟨by omega, by omega⟩ (fun h12 => ?_) (fun h12 => ?_)
      · refine x_bipush (pc' := 26) hE dX8_years_24 rfl (by decide +kernel) ?_
        refine x_iret hE dX8_years_26 ?_
        refine ⟨ri ?_, ?_⟩
        · first | (exfalso; omega) | skip
          all_goals unfold aYears
          all_goals repeat' split
          all_goals first | rfl | omega | (exfalso; omega)
        · first | (exfalso; omega) | skip
          all_goals first | exact hC | (exfalso; omega) | (assumption)
      · refine x_iload_n (pc' := 16) hE dX8_years_15 rfl rfl ?_
        refine x_iflt (tgt := 24) (pc' := 19) hE dX8_years_16 (by decide) rfl ⟨by omega, by omega⟩ (fun h13 => ?_) (fun h13 => ?_)
        · refine x_bipush (pc' := 26) hE dX8_years_24 rfl (by decide +kernel) ?_
          refine x_iret hE dX8_years_26 ?_
          refine ⟨ri ?_, ?_⟩
          · first | (exfalso; omega) | skip
            all_goals unfold aYears
            all_goals repeat' split
            all_goals first | rfl | omega | (exfalso; omega)
          · first | (exfalso; omega) | skip
            all_goals first | exact hC | (exfalso; omega) | (assumption)
        · refine x_iload_n (pc' := 20) hE dX8_years_19 rfl rfl ?_
          refine x_iconst (pc' := 21) hE dX8_years_20 rfl ?_
          refine x_icmple (tgt := 27) (pc' := 24) hE dX8_years_21 (by decide) rfl ⟨by omega, by omega⟩ ⟨by omega, by omega⟩ (fun h14 => ?_) (fun h14 => ?_)
          · refine x_aload_n (pc' := 28) hE dX8_years_27 rfl rfl ?_
            refine x_cV0 (pc' := 31) hE hM (okC G) hl hR (c_X8_trialFromNow l G _ _ _ hRW hW) kX8_trialFromNow tM_X8_180 (rcv_X8 hM) (by decide) dX8_years_28 rfl rfl (Nat.le_of_ble_eq_true rfl) (fun σ15 e15 => ?_)
            obtain ⟨hfa0, hRt⟩ := e15
            generalize σ15 = T at *
            refine x_aload_n (pc' := 32) hE dX8_years_31 rfl rfl ?_
            refine g_X8_5 (pc' := 35) hE hM tF_X8_39 dX8_years_32 rfl ?_
            refine x_iload_n (pc' := 36) hE dX8_years_35 rfl rfl ?_
            refine x_i2l (pc' := 37) hE dX8_years_36 rfl ⟨by omega, by omega⟩ ?_
            refine pN_X0_0 (pc' := 40) hE hM (fun _ h => nF_X8_231 h) dX8_years_37 rfl ?_
            refine x_iconst (pc' := 41) hE dX8_years_40 rfl ?_
            refine x_istore (pc' := 43) hE dX8_years_41 rfl (by decide) rfl rfl ?_
            dsimp only [List.set]
            exact loop d.toNat 0 _ (by omega) (hfa0.y.trans (FrY_sd T s)) (RW_sd hRt) (by simpa [yrN] using hW) (by rw [up_s]; omega) (up_s _ _ _ _ _ _) (by omega) (by omega)
          · refine x_bipush (pc' := 26) hE dX8_years_24 rfl (by decide +kernel) ?_
            refine x_iret hE dX8_years_26 ?_
            refine ⟨ri ?_, ?_⟩
            · first | (exfalso; omega) | skip
              all_goals unfold aYears
              all_goals repeat' split
              all_goals first | rfl | omega | (exfalso; omega)
            · first | (exfalso; omega) | skip
              all_goals first | exact hC | (exfalso; omega) | (assumption)
