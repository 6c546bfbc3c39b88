set_option maxHeartbeats 4000000 in
set_option maxRecDepth 10000 in
theorem c_X8_withPacks (l : Launch) (G : GC) (σ : St) (τ : St) (B : Int) (hI : IM B τ) (hC : RC σ τ) (hB : B ≤ 800000) (h : Int) : Ct l (YC G) yX8_withPacks (.code yX8_withPacks cX8_withPacks 5 (some .long)) 4 [.ref (aC G 0 0 0), .long (lL h)] σ (fun v σ' => v = some (.long (lL (dgP (fv τ) (wv τ) (wv τ 0 0).toNat h))) ∧ RC σ' τ) := by
  refine Ct_of (own := RX8) [some (.ref (aC G 0 0 0)), some (.long (lL h)), none, none, none] rfl rfl (Nat.le_of_ble_eq_true rfl) rfl ?_
  intro E hE hM hl hR
  obtain ⟨hW, hF, hrd, hak, hpl, hpg, hwt, hfr, hsn, hso, hce, hkp, hkk⟩ := id hI
  obtain ⟨hnp, hnf, hday, hpp, hff, hcc⟩ := WT_of hW
  obtain ⟨cP, ⟨cN, hRF⟩, hRW, cS, cI, cK, cR, cA⟩ := id hC
  obtain ⟨r1, r2, r3, r4, r5, r6, r7⟩ := id hRW
  obtain ⟨p1, p2⟩ := id cP
  have w00 : wv τ 0 0 = τ 0 0 0 5 := rfl
  have w01 : wv τ 0 1 = τ 0 0 0 9 := rfl
  have w02 : wv τ 0 2 = τ 0 0 0 3 := rfl
  have loop : ∀ (n : Nat) (k : Int) (S : St), RC S τ → 0 ≤ k → k ≤ wv τ 0 0 → wv τ 0 0 - k = n → VV E 5 (AS (YC G)) (Qm (YC G) (fun v σ' => v = some (.long (lL (dgP (fv τ) (wv τ) (wv τ 0 0).toNat h))) ∧ RC σ' τ) E) (Rh (YC G) (S)) 2 [some (.ref (aC G 0 0 0)), some (.long (lL (dgP (fv τ) (wv τ) (k).toNat h))), none, some (.int (iN (k))), none] [] := by
    intro n
    induction n using Nat.strongRecOn with
    | _ n ih =>
    intro k S hCS g0 g1 g2
    obtain ⟨-, -, hRS, -⟩ := id hCS
    have s1 := hRS.1
    have inner : ∀ (n2 : Nat) (j : Int) (U : St), RC U τ → k < wv τ 0 0 → 0 ≤ j → j ≤ 7 → 7 - j = n2 → VV E 5 (AS (YC G)) (Qm (YC G) (fun v σ' => v = some (.long (lL (dgP (fv τ) (wv τ) (wv τ 0 0).toNat h))) ∧ RC σ' τ) E) (Rh (YC G) (U)) 16 [some (.ref (aC G 0 0 0)), some (.long (lL (mixU (pkN (fv τ) (wv τ) k) (j).toNat (dgP (fv τ) (wv τ) (k).toNat h)))), none, some (.int (iN (k))), some (.int (iN j))] [] := by
      intro n2
      induction n2 using Nat.strongRecOn with
      | _ n2 ih2 =>
      intro j U hCU hk j0 j1 j2
      have ea : j ≤ 6 → aAbout τ k j = pkN (fv τ) (wv τ) k j := fun q => by unfold aAbout; rw [if_neg (by omega), if_pos (by omega)]
      have hb := pkN_bd (F := fv τ) hW (p := k) g0 (by omega) j
      have en : ∀ w, 0 ≤ w → w ≤ 1 → aNail τ k w = nailN (fv τ) (wv τ 1 k) (wv τ 3 k) (wv τ 0 2) w := fun w q0 q1 => by unfold aNail; rw [if_neg (by omega), if_pos (by omega)]; rfl
      have hc0 := nailN_bd (fv τ) (wv τ 1 k) (wv τ 3 k) (wv τ 0 2) 0
      have hc1 := nailN_bd (fv τ) (wv τ 1 k) (wv τ 3 k) (wv τ 0 2) 1
      refine x_iload (pc' := 18) hE dX8_withPacks_16 rfl rfl ?_
      refine x_bipush (pc' := 20) hE dX8_withPacks_18 rfl (by decide +kernel) ?_
      refine x_icmpgt (tgt := 42) (pc' := 23) hE dX8_withPacks_20 (by decide) rfl ⟨by omega, by omega⟩ ⟨by omega, by omega⟩ (fun h1 => ?_) (fun h1 => ?_)
      · refine x_lload_n (pc' := 43) hE dX8_withPacks_42 rfl rfl ?_
        refine x_aload_n (pc' := 44) hE dX8_withPacks_43 rfl rfl ?_
        refine x_iload_n (pc' := 45) hE dX8_withPacks_44 rfl rfl ?_
        refine x_iconst (pc' := 46) hE dX8_withPacks_45 rfl ?_
        refine x_cV1 (pc' := 49) hE hM (okC G) hl hR (c_X8_nail l G _ τ B hI hCU hB _ ⟨by omega, by omega⟩ _ ⟨by omega, by omega⟩) kX8_nail tM_X8_309 (rcv_X8 hM) (by decide) dX8_withPacks_46 rfl rfl (Nat.le_of_ble_eq_true rfl) (fun σ2 e2 => ?_)
        rw [en _ (by omega) (by omega)]
        have hCa := e2
        refine x_i2l (pc' := 50) hE dX8_withPacks_49 rfl ⟨by omega, by omega⟩ ?_
        refine x_cS1 (pc' := 53) hE hM (okC G) hl hR (c_X8_mixed l G _ _ _) kX8_mixed tM_X8_257 (by decide) dX8_withPacks_50 rfl rfl (Nat.le_of_ble_eq_true rfl) (fun σ3 e3 => ?_)
        replace e3 := e3.symm
        subst e3
        refine x_aload_n (pc' := 54) hE dX8_withPacks_53 rfl rfl ?_
        refine x_iload_n (pc' := 55) hE dX8_withPacks_54 rfl rfl ?_
        refine x_iconst (pc' := 56) hE dX8_withPacks_55 rfl ?_
        refine x_cV1 (pc' := 59) hE hM (okC G) hl hR (c_X8_nail l G _ τ B hI hCa hB _ ⟨by omega, by omega⟩ _ ⟨by omega, by omega⟩) kX8_nail tM_X8_309 (rcv_X8 hM) (by decide) dX8_withPacks_56 rfl rfl (Nat.le_of_ble_eq_true rfl) (fun σ4 e4 => ?_)
        rw [en _ (by omega) (by omega)]
        have hCb := e4
        refine x_i2l (pc' := 60) hE dX8_withPacks_59 rfl ⟨by omega, by omega⟩ ?_
        refine x_cS1 (pc' := 63) hE hM (okC G) hl hR (c_X8_mixed l G _ _ _) kX8_mixed tM_X8_257 (by decide) dX8_withPacks_60 rfl rfl (Nat.le_of_ble_eq_true rfl) (fun σ5 e5 => ?_)
        replace e5 := e5.symm
        subst e5
        refine x_lstore_n (pc' := 64) hE dX8_withPacks_63 rfl (by decide) rfl rfl ?_
        dsimp only [List.set]
        refine x_iinc (pc' := 67) hE dX8_withPacks_64 rfl rfl (by decide) rfl rfl ?_
        dsimp only [List.set]
        refine x_goto (tgt := 2) hE dX8_withPacks_67 (by decide) ?_
        have e7 : j = 7 := by omega
        subst e7
        refine x_lvf (lv' := [some (.ref (aC G 0 0 0)), some (.long (lL (dgP (fv τ) (wv τ) (k + 1).toNat h))), none, some (.int (iN (k + 1))), none]) ⟨Or.inr rfl, Or.inr (by rw [dgP_s _ _ g0]; rfl), Or.inl rfl, Or.inr rfl, Or.inl rfl, trivial⟩ (ih (n - 1) (by omega) (k + 1) _ hCb (by omega) (by omega) (by omega))
      · refine x_lload_n (pc' := 24) hE dX8_withPacks_23 rfl rfl ?_
        refine x_aload_n (pc' := 25) hE dX8_withPacks_24 rfl rfl ?_
        refine x_iload_n (pc' := 26) hE dX8_withPacks_25 rfl rfl ?_
        refine x_iload (pc' := 28) hE dX8_withPacks_26 rfl rfl ?_
        refine x_cV1 (pc' := 31) hE hM (okC G) hl hR (c_X8_about l G _ τ B hI hCU hB _ ⟨by omega, by omega⟩ _ ⟨by omega, by omega⟩) kX8_about tM_X8_306 (rcv_X8 hM) (by decide) dX8_withPacks_28 rfl rfl (Nat.le_of_ble_eq_true rfl) (fun σ6 e6 => ?_)
        rw [ea (by omega)]
        refine x_i2l (pc' := 32) hE dX8_withPacks_31 rfl ⟨by omega, by omega⟩ ?_
        refine x_cS1 (pc' := 35) hE hM (okC G) hl hR (c_X8_mixed l G _ _ _) kX8_mixed tM_X8_257 (by decide) dX8_withPacks_32 rfl rfl (Nat.le_of_ble_eq_true rfl) (fun σ7 e7 => ?_)
        replace e7 := e7.symm
        subst e7
        refine x_lstore_n (pc' := 36) hE dX8_withPacks_35 rfl (by decide) rfl rfl ?_
        dsimp only [List.set]
        refine x_iinc (pc' := 39) hE dX8_withPacks_36 rfl rfl (by decide) rfl rfl ?_
        dsimp only [List.set]
        refine x_goto (tgt := 16) hE dX8_withPacks_39 (by decide) ?_
        refine x_lve (lv' := [some (.ref (aC G 0 0 0)), some (.long (lL (mixU (pkN (fv τ) (wv τ) k) (j + 1).toNat (dgP (fv τ) (wv τ) (k).toNat h)))), none, some (.int (iN (k))), some (.int (iN (j + 1)))]) (by rw [mixU_s _ j0]) (ih2 (n2 - 1) (by omega) (j + 1) _ e6 hk (by omega) (by omega) (by omega))
    refine x_iload_n (pc' := 3) hE dX8_withPacks_2 rfl rfl ?_
    refine x_aload_n (pc' := 4) hE dX8_withPacks_3 rfl rfl ?_
    refine g_X8_2 (pc' := 7) hE hM tF_X8_26 dX8_withPacks_4 rfl ?_
    refine gN_X7_4 (pc' := 10) (by omega) hE hM (fun _ h => nF_X8_90 h) dX8_withPacks_7 rfl ?_
    refine x_icmpge (tgt := 70) (pc' := 13) hE dX8_withPacks_10 (by decide) rfl ⟨by omega, by omega⟩ ⟨by omega, by omega⟩ (fun h8 => ?_) (fun h8 => ?_)
    · refine x_lload_n (pc' := 71) hE dX8_withPacks_70 rfl rfl ?_
      refine x_lret hE dX8_withPacks_71 ?_
      have e : k = wv τ 0 0 := by omega
      subst e
      exact ⟨rfl, hCS⟩
    · refine x_iconst (pc' := 14) hE dX8_withPacks_13 rfl ?_
      refine x_istore (pc' := 16) hE dX8_withPacks_14 rfl (by decide) rfl rfl ?_
      dsimp only [List.set]
      exact inner 7 0 S hCS (by omega) (by omega) (by omega) (by omega)
  refine x_iconst (pc' := 1) hE dX8_withPacks_0 rfl ?_
  refine x_istore_n (pc' := 2) hE dX8_withPacks_1 rfl (by decide) rfl rfl ?_
  dsimp only [List.set]
  exact loop (wv τ 0 0).toNat 0 σ hC (by omega) (by omega) (by omega)
set_option maxHeartbeats 4000000 in
set_option maxRecDepth 10000 in
theorem c_X8_withFlocks (l : Launch) (G : GC) (σ : St) (τ : St) (B : Int) (hI : IM B τ) (hC : RC σ τ) (hB : B ≤ 800000) (h : Int) : Ct l (YC G) yX8_withFlocks (.code yX8_withFlocks cX8_withFlocks 5 (some .long)) 5 [.ref (aC G 0 0 0), .long (lL h)] σ (fun v σ' => v = some (.long (lL (dgF (fv τ) (wv τ) (wv τ 0 1).toNat h))) ∧ RC σ' τ) := by
  refine Ct_of (own := RX8) [some (.ref (aC G 0 0 0)), some (.long (lL h)), none, none, none] rfl rfl (Nat.le_of_ble_eq_true rfl) rfl ?_
  intro E hE hM hl hR
  obtain ⟨hW, hF, hrd, hak, hpl, hpg, hwt, hfr, hsn, hso, hce, hkp, hkk⟩ := id hI
  obtain ⟨hnp, hnf, hday, hpp, hff, hcc⟩ := WT_of hW
  obtain ⟨cP, ⟨cN, hRF⟩, hRW, cS, cI, cK, cR, cA⟩ := id hC
  obtain ⟨r1, r2, r3, r4, r5, r6, r7⟩ := id hRW
  obtain ⟨p1, p2⟩ := id cP
  have w00 : wv τ 0 0 = τ 0 0 0 5 := rfl
  have w01 : wv τ 0 1 = τ 0 0 0 9 := rfl
  have w02 : wv τ 0 2 = τ 0 0 0 3 := rfl
  have loop : ∀ (n : Nat) (k : Int) (S : St), RC S τ → 0 ≤ k → k ≤ wv τ 0 1 → wv τ 0 1 - k = n → VV E 5 (AS (YC G)) (Qm (YC G) (fun v σ' => v = some (.long (lL (dgF (fv τ) (wv τ) (wv τ 0 1).toNat h))) ∧ RC σ' τ) E) (Rh (YC G) (S)) 2 [some (.ref (aC G 0 0 0)), some (.long (lL (dgF (fv τ) (wv τ) (k).toNat h))), none, some (.int (iN (k))), none] [] := by
    intro n
    induction n using Nat.strongRecOn with
    | _ n ih =>
    intro k S hCS g0 g1 g2
    obtain ⟨-, -, hRS, -⟩ := id hCS
    have s2 := hRS.2.1
    have inner : ∀ (n2 : Nat) (j : Int) (U : St), RC U τ → k < wv τ 0 1 → 0 ≤ j → j ≤ 4 → 4 - j = n2 → VV E 5 (AS (YC G)) (Qm (YC G) (fun v σ' => v = some (.long (lL (dgF (fv τ) (wv τ) (wv τ 0 1).toNat h))) ∧ RC σ' τ) E) (Rh (YC G) (U)) 16 [some (.ref (aC G 0 0 0)), some (.long (lL (mixU (flN (wv τ) k) (j).toNat (dgF (fv τ) (wv τ) (k).toNat h)))), none, some (.int (iN (k))), some (.int (iN j))] [] := by
      intro n2
      induction n2 using Nat.strongRecOn with
      | _ n2 ih2 =>
      intro j U hCU hk j0 j1 j2
      obtain ⟨-, ⟨-, hRFU⟩, hRU, -⟩ := id hCU
      have ea : j ≤ 3 → aFlockOf τ k j = flN (wv τ) k j := fun q => by unfold aFlockOf; rw [if_neg (by omega), if_pos (by omega)]
      have hb := flN_bd hW (f := k) g0 (by omega) j
      have hk9 := fallK_bd (fv τ) k 60 (wv τ) 1 (by omega)
      refine x_iload (pc' := 18) hE dX8_withFlocks_16 rfl rfl ?_
      refine x_iconst (pc' := 19) hE dX8_withFlocks_18 rfl ?_
      refine x_icmpgt (tgt := 41) (pc' := 22) hE dX8_withFlocks_19 (by decide) rfl ⟨by omega, by omega⟩ ⟨by omega, by omega⟩ (fun h1 => ?_) (fun h1 => ?_)
      · refine x_aload_n (pc' := 42) hE dX8_withFlocks_41 rfl rfl ?_
        refine g_X8_2 (pc' := 45) hE hM tF_X8_26 dX8_withFlocks_42 rfl ?_
        refine x_iload_n (pc' := 46) hE dX8_withFlocks_45 rfl rfl ?_
        refine x_cV1 (pc' := 49) hE hM (okC G) hl hR (c_X7_isEaten l G _ _ (by omega) _ _ hRU hW (by omega) _ (by omega) (by omega)) kX7_isEaten tM_X8_164 (rcv_X7 (by omega) hM) (by decide) dX8_withFlocks_46 rfl rfl (Nat.le_of_ble_eq_true rfl) (fun σ2 e2 => ?_)
        replace e2 := e2.symm
        subst e2
        refine x_ifneB (tgt := 76) (pc' := 52) hE dX8_withFlocks_49 (by decide) rfl (fun h3 => ?_) (fun h3 => ?_)
        · try simp only [decide_eq_true_eq, decide_eq_false_iff_not] at h3
          refine x_iinc (pc' := 79) hE dX8_withFlocks_76 rfl rfl (by decide) rfl rfl ?_
          dsimp only [List.set]
          refine x_goto (tgt := 2) hE dX8_withFlocks_79 (by decide) ?_
          have e7 : j = 4 := by omega
          subst e7
          have q9 := (eaQ_t h3).2
          refine x_lvf (lv' := [some (.ref (aC G 0 0 0)), some (.long (lL (dgF (fv τ) (wv τ) (k + 1).toNat h))), none, some (.int (iN (k + 1))), none]) ⟨Or.inr rfl, Or.inr (by rw [dgF_s _ _ g0, flM, if_neg q9]; rfl), Or.inl rfl, Or.inr rfl, Or.inl rfl, trivial⟩ (ih (n - 1) (by omega) (k + 1) _ hCU (by omega) (by omega) (by omega))
        · try simp only [decide_eq_true_eq, decide_eq_false_iff_not] at h3
          refine x_aload_n (pc' := 53) hE dX8_withFlocks_52 rfl rfl ?_
          refine x_cV0 (pc' := 56) hE hM (okC G) hl hR (c_X8_trialFromNow l G _ _ _ hRU hW) kX8_trialFromNow tM_X8_180 (rcv_X8 hM) (by decide) dX8_withFlocks_53 rfl rfl (Nat.le_of_ble_eq_true rfl) (fun σ4 e4 => ?_)
          obtain ⟨hfa0, hRt⟩ := e4
          have hRF2 := hfa0.rf hRFU
          generalize σ4 = T at *
          refine x_lload_n (pc' := 57) hE dX8_withFlocks_56 rfl rfl ?_
          refine x_aload_n (pc' := 58) hE dX8_withFlocks_57 rfl rfl ?_
          refine g_X8_4 (pc' := 61) hE hM tF_X8_33 dX8_withFlocks_58 rfl ?_
          refine x_iload_n (pc' := 62) hE dX8_withFlocks_61 rfl rfl ?_
          refine x_bipush (pc' := 64) hE dX8_withFlocks_62 rfl (by decide +kernel) ?_
          refine x_aload_n (pc' := 65) hE dX8_withFlocks_64 rfl rfl ?_
          refine g_X8_1 (pc' := 68) hE hM tF_X8_19 dX8_withFlocks_65 rfl ?_
          refine x_cV1 (pc' := 71) hE hM (okC G) hl hR (c_X7_daysUntilEaten l G _ _ (by omega) _ _ hRt hW (by omega) _ hRF2 _ _ (by omega) (by omega) (by omega) (by omega)) kX7_daysUntilEaten tM_X8_183 (rcv_X7 (by omega) hM) (by decide) dX8_withFlocks_68 rfl rfl (Nat.le_of_ble_eq_true rfl) (fun σ5 e5 => ?_)
          have hCb := (hCU.try hfa0).try e5.fa
          rw [show (60 : Int).toNat = 60 from rfl]
          refine x_i2l (pc' := 72) hE dX8_withFlocks_71 rfl ⟨by omega, by omega⟩ ?_
          refine x_cS1 (pc' := 75) hE hM (okC G) hl hR (c_X8_mixed l G _ _ _) kX8_mixed tM_X8_257 (by decide) dX8_withFlocks_72 rfl rfl (Nat.le_of_ble_eq_true rfl) (fun σ6 e6 => ?_)
          replace e6 := e6.symm
          subst e6
          refine x_lstore_n (pc' := 76) hE dX8_withFlocks_75 rfl (by decide) rfl rfl ?_
          dsimp only [List.set]
          refine x_iinc (pc' := 79) hE dX8_withFlocks_76 rfl rfl (by decide) rfl rfl ?_
          dsimp only [List.set]
          refine x_goto (tgt := 2) hE dX8_withFlocks_79 (by decide) ?_
          have e7 : j = 4 := by omega
          subst e7
          have q9 := eaQ_f h3 (by omega)
          refine x_lvf (lv' := [some (.ref (aC G 0 0 0)), some (.long (lL (dgF (fv τ) (wv τ) (k + 1).toNat h))), none, some (.int (iN (k + 1))), none]) ⟨Or.inr rfl, Or.inr (by rw [dgF_s _ _ g0, flM, if_pos q9]; rfl), Or.inl rfl, Or.inr rfl, Or.inl rfl, trivial⟩ (ih (n - 1) (by omega) (k + 1) _ hCb (by omega) (by omega) (by omega))
      · refine x_lload_n (pc' := 23) hE dX8_withFlocks_22 rfl rfl ?_
        refine x_aload_n (pc' := 24) hE dX8_withFlocks_23 rfl rfl ?_
        refine x_iload_n (pc' := 25) hE dX8_withFlocks_24 rfl rfl ?_
        refine x_iload (pc' := 27) hE dX8_withFlocks_25 rfl rfl ?_
        refine x_cV1 (pc' := 30) hE hM (okC G) hl hR (c_X8_flockOf l G _ τ B hI hCU hB _ ⟨by omega, by omega⟩ _ ⟨by omega, by omega⟩) kX8_flockOf tM_X8_312 (rcv_X8 hM) (by decide) dX8_withFlocks_27 rfl rfl (Nat.le_of_ble_eq_true rfl) (fun σ7 e7 => ?_)
        rw [ea (by omega)]
        refine x_i2l (pc' := 31) hE dX8_withFlocks_30 rfl ⟨by omega, by omega⟩ ?_
        refine x_cS1 (pc' := 34) hE hM (okC G) hl hR (c_X8_mixed l G _ _ _) kX8_mixed tM_X8_257 (by decide) dX8_withFlocks_31 rfl rfl (Nat.le_of_ble_eq_true rfl) (fun σ8 e8 => ?_)
        replace e8 := e8.symm
        subst e8
        refine x_lstore_n (pc' := 35) hE dX8_withFlocks_34 rfl (by decide) rfl rfl ?_
        dsimp only [List.set]
        refine x_iinc (pc' := 38) hE dX8_withFlocks_35 rfl rfl (by decide) rfl rfl ?_
        dsimp only [List.set]
        refine x_goto (tgt := 16) hE dX8_withFlocks_38 (by decide) ?_
        refine x_lve (lv' := [some (.ref (aC G 0 0 0)), some (.long (lL (mixU (flN (wv τ) k) (j + 1).toNat (dgF (fv τ) (wv τ) (k).toNat h)))), none, some (.int (iN (k))), some (.int (iN (j + 1)))]) (by rw [mixU_s _ j0]) (ih2 (n2 - 1) (by omega) (j + 1) _ e7 hk (by omega) (by omega) (by omega))
    refine x_iload_n (pc' := 3) hE dX8_withFlocks_2 rfl rfl ?_
    refine x_aload_n (pc' := 4) hE dX8_withFlocks_3 rfl rfl ?_
    refine g_X8_2 (pc' := 7) hE hM tF_X8_26 dX8_withFlocks_4 rfl ?_
    refine gN_X7_5 (pc' := 10) (by omega) hE hM (fun _ h => nF_X8_145 h) dX8_withFlocks_7 rfl ?_
    refine x_icmpge (tgt := 82) (pc' := 13) hE dX8_withFlocks_10 (by decide) rfl ⟨by omega, by omega⟩ ⟨by omega, by omega⟩ (fun h9 => ?_) (fun h9 => ?_)
    · refine x_lload_n (pc' := 83) hE dX8_withFlocks_82 rfl rfl ?_
      refine x_lret hE dX8_withFlocks_83 ?_
      have e : k = wv τ 0 1 := by omega
      subst e
      exact ⟨rfl, hCS⟩
    · refine x_iconst (pc' := 14) hE dX8_withFlocks_13 rfl ?_
      refine x_istore (pc' := 16) hE dX8_withFlocks_14 rfl (by decide) rfl rfl ?_
      dsimp only [List.set]
      exact inner 4 0 S hCS (by omega) (by omega) (by omega) (by omega)
  refine x_iconst (pc' := 1) hE dX8_withFlocks_0 rfl ?_
  refine x_istore_n (pc' := 2) hE dX8_withFlocks_1 rfl (by decide) rfl rfl ?_
  dsimp only [List.set]
  exact loop (wv τ 0 1).toNat 0 σ hC (by omega) (by omega) (by omega)
