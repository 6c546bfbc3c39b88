set_option maxHeartbeats 4000000 in
set_option maxRecDepth 10000 in
theorem c_X9_draw (l : Launch) (G : GM) (τ : St) (d : Int) (h0 : 0 ≤ τ 0 0 0 29 ∧ τ 0 0 0 29 < 2147483648) (d0 : 1 ≤ d) (d1 : d ≤ 100) : Ct l (YM G) yX9_draw (.code yX9_draw cX9_draw 2 (some .int)) 0 [.ref (aM G 0), .int (iN d)] τ (fun v τ' => v = some (.int (iN (sdN (τ 0 0 0 29) / 65536 % d))) ∧ τ' = up τ 0 0 0 29 (sdN (τ 0 0 0 29))) := by
  refine Ct_of (own := RX9) [some (.ref (aM G 0)), some (.int (iN d))] rfl rfl (Nat.le_of_ble_eq_true rfl) rfl ?_
  intro E hE hM hl hR
  have hb := sdN_bd (τ 0 0 0 29)
  have hu : up τ 0 0 0 29 (sdN (τ 0 0 0 29)) 0 0 0 29 = sdN (τ 0 0 0 29) := up_s _ _ _ _ _ _
  refine x_aload_n (pc' := 1) hE dX9_draw_0 rfl rfl ?_
  refine x_ldc2 (pc' := 4) hE dX9_draw_1 rfl tV_X9_232 ?_
  refine x_aload_n (pc' := 5) hE dX9_draw_4 rfl rfl ?_
  refine gM_29 (pc' := 8) hE hM tF_X9_234 dX9_draw_5 rfl ?_
  refine x_lmul (pc' := 9) hE dX9_draw_8 rfl ?_
  refine x_ldc2 (pc' := 12) hE dX9_draw_9 rfl tV_X9_238 ?_
  refine x_ladd (pc' := 13) hE dX9_draw_12 rfl ?_
  refine x_ldc2 (pc' := 16) hE dX9_draw_13 rfl tV_X9_240 ?_
  refine x_land (pc' := 17) hE dX9_draw_16 rfl ?_
  refine x_st (st' := [.long (lL (sdN (τ 0 0 0 29))), .ref (aM G 0)]) (by rw [sd_raw h0.1 h0.2]) ?_
  refine pM_29 (pc' := 20) hE hM tF_X9_234 dX9_draw_17 rfl ?_
  refine x_aload_n (pc' := 21) hE dX9_draw_20 rfl rfl ?_
  refine gM_29 (pc' := 24) hE hM tF_X9_234 dX9_draw_21 rfl ?_
  rw [hu]
  refine x_ldc2 (pc' := 27) hE dX9_draw_24 rfl tV_X9_242 ?_
  refine x_st (st' := [.long (lL 65536), .long (lL (sdN (τ 0 0 0 29)))]) (by rw [show (65536 : Int64) = lL 65536 by decide +kernel]) ?_
  refine x_ldiv (pc' := 28) hE dX9_draw_27 rfl (by omega) (by omega) (by omega) (by omega) ?_
  refine x_iload_n (pc' := 29) hE dX9_draw_28 rfl rfl ?_
  refine x_i2l (pc' := 30) hE dX9_draw_29 rfl ⟨by omega, by omega⟩ ?_
  refine x_lrem (pc' := 31) hE dX9_draw_30 rfl (by omega) (by omega) (by omega) (by omega) ?_
  refine x_l2i (pc' := 32) hE dX9_draw_31 rfl ?_
  refine x_iret hE dX9_draw_32 ?_
  exact ⟨rfl, rfl⟩
theorem wv_up29 (τ : St) (v : Int) : wv (up τ 0 0 0 29 v) = wv τ := by
  funext r i
  unfold wv
  split
  · rw [up_n (by decide), up_n (by decide), up_n (by decide)]
  · split
    · exact up_n (by omega)
    · split
      · exact up_n (by omega)
      · rfl
theorem fv_up29 (τ : St) (v : Int) : fv (up τ 0 0 0 29 v) = fv τ := by
  unfold fv
  rw [up_n (by decide), show up τ 0 0 0 29 v 1 0 0 = τ 1 0 0 from funext fun d => up_n (by omega)]
theorem fok_up29 {τ : St} {v : Int} (hF : FOk (τ 0 0 0 1) (τ 1 0 0)) : FOk (up τ 0 0 0 29 v 0 0 0 1) (up τ 0 0 0 29 v 1 0 0) := by
  rw [up_n (by decide), show up τ 0 0 0 29 v 1 0 0 = τ 1 0 0 from funext fun d => up_n (by omega)]
  exact hF
theorem Sv_up29 {τ0 σ : St} {v : Int} (h : Sv τ0 σ) : Sv τ0 (up σ 0 0 0 29 v) := by
  obtain ⟨h1, h2, h3, h4⟩ := h
  refine ⟨fun a j hr a0 a2 a6 => ?_, ?_, fun c b0 b1 => ?_, fun f b0 b1 => ?_⟩
  · have hr' := hr
    unfold relM at hr'
    rw [up_n (by omega)]; exact h1 a j hr a0 a2 a6
  · rw [up_n (by omega)]; exact h2
  · rw [up_n (by omega)]; exact h3 c b0 b1
  · rw [up_n (by omega), up_n (by omega), up_n (by omega)]; exact h4 f b0 b1
theorem x_fg5 {E : EV} {nL : Nat} {A : Nat → Prop} {Q : State → Prop} {J : Heap → Prop} {pc : Nat} {a0 a1 a2 a3 a4 a5 : Option Value} {st : List Value} (k : VV E nL A Q J pc [a0, a1, a2, a3, a4, none] st) : VV E nL A Q J pc [a0, a1, a2, a3, a4, a5] st := x_lvf (lv' := [a0, a1, a2, a3, a4, none]) ⟨Or.inr rfl, Or.inr rfl, Or.inr rfl, Or.inr rfl, Or.inr rfl, Or.inl rfl, trivial⟩ k
set_option maxHeartbeats 4000000 in
set_option maxRecDepth 10000 in
theorem c_X9_yearsNow (l : Launch) (G : GM) (τ : St) (D : Int) (hW : WOk D (wv τ)) (hD : D ≤ 900000) (hF : FOk (τ 0 0 0 1) (τ 1 0 0)) (days seed wh : Int) (y0 : 1 ≤ days) (y1 : days ≤ 60) (s0 : 0 ≤ seed) (s1 : seed < 2147483648) (w0 : 0 ≤ wh) (w1 : wh ≤ 1) : Ct l (YM G) yX9_yearsNow (.code yX9_yearsNow cX9_yearsNow 6 (some .int)) 5 [.ref (aM G 0), .int (iN days), .int (iN seed), .int (iN wh)] τ (fun v τ' => v = some (.int (iN (if wh = 0 then eatN (yrN (fv τ) (wv τ, seed) days.toNat).1 else (yrN (fv τ) (wv τ, seed) days.toNat).2))) ∧ Sc τ τ') := by
  refine Ct_of (own := RX9) [some (.ref (aM G 0)), some (.int (iN days)), some (.int (iN seed)), some (.int (iN wh)), none, none] rfl rfl (Nat.le_of_ble_eq_true rfl) rfl ?_
  intro E hE hM hl hR
  have loop : ∀ (n : Nat) (k : Nat) (S : St), Sv τ S → WOk (D + k) (wv S) → FOk (S 0 0 0 1) (S 1 0 0) → fv S = fv τ → 0 ≤ S 0 0 0 29 ∧ S 0 0 0 29 < 2147483648 → (wv S, S 0 0 0 29) = yrN (fv τ) (wv τ, seed) k → (k : Int) ≤ days → days - k = n → VV E 6 (AS (YM G)) (Qm (YM G) (fun v τ' => v = some (.int (iN (if wh = 0 then eatN (yrN (fv τ) (wv τ, seed) days.toNat).1 else (yrN (fv τ) (wv τ, seed) days.toNat).2))) ∧ Sc τ τ') E) (Rh (YM G) (S)) 13 [some (.ref (aM G 0)), some (.int (iN days)), some (.int (iN seed)), some (.int (iN wh)), some (.int (iN ((k : Nat) : Int))), none] [] := by
    intro n
    induction n using Nat.strongRecOn with
    | _ n ih =>
    intro k S hs hWS hFS hfS hsd hy g1 g2
    have b1 := sdN_bd (S 0 0 0 29)
    have he := eatN_bd hWS
    have hy1 : wv S = (yrN (fv τ) (wv τ, seed) k).1 := by rw [← hy]
    have hy2 : S 0 0 0 29 = (yrN (fv τ) (wv τ, seed) k).2 := by rw [← hy]
    -- the first draw
    have u1 : up S 0 0 0 29 (sdN (S 0 0 0 29)) 0 0 0 29 = sdN (S 0 0 0 29) := up_s _ _ _ _ _ _
    have hw1 := wv_up29 S (sdN (S 0 0 0 29))
    have hf1 := fv_up29 S (sdN (S 0 0 0 29))
    have hF1 := fok_up29 (v := sdN (S 0 0 0 29)) hFS
    have hs1 := Sv_up29 (v := sdN (S 0 0 0 29)) hs
    generalize hS1 : up S 0 0 0 29 (sdN (S 0 0 0 29)) = S1 at *
    have hW1 : WOk (D + k) (wv S1) := by rw [hw1]; exact hWS
    have u2 : up S1 0 0 0 29 (sdN (S1 0 0 0 29)) 0 0 0 29 = sdN (S1 0 0 0 29) := up_s _ _ _ _ _ _
    have hw2 := wv_up29 S1 (sdN (S1 0 0 0 29))
    have hf2 := fv_up29 S1 (sdN (S1 0 0 0 29))
    have hF2 := fok_up29 (v := sdN (S1 0 0 0 29)) hF1
    have hs2 := Sv_up29 (v := sdN (S1 0 0 0 29)) hs1
    generalize hS2 : up S1 0 0 0 29 (sdN (S1 0 0 0 29)) = S2 at *
    have u3 : up S2 0 0 0 29 (sdN (S2 0 0 0 29)) 0 0 0 29 = sdN (S2 0 0 0 29) := up_s _ _ _ _ _ _
    have hw3 := wv_up29 S2 (sdN (S2 0 0 0 29))
    have hf3 := fv_up29 S2 (sdN (S2 0 0 0 29))
    have hF3 := fok_up29 (v := sdN (S2 0 0 0 29)) hF2
    have hs3 := Sv_up29 (v := sdN (S2 0 0 0 29)) hs2
    generalize hS3 : up S2 0 0 0 29 (sdN (S2 0 0 0 29)) = S3 at *
    have b2 := sdN_bd (S1 0 0 0 29)
    have b3 := sdN_bd (S2 0 0 0 29)
    have hs4 : Sv τ (up S3 2 0 0 (sdN (S1 0 0 0 29) / 65536 % 8) (sdN (S2 0 0 0 29) / 65536 % 30)) := Sv_up hs3 (by omega)
    have hw4 := wv_up2 S3 (sdN (S1 0 0 0 29) / 65536 % 8) (sdN (S2 0 0 0 29) / 65536 % 30)
    have hW4 : WOk (D + k) (wv (up S3 2 0 0 (sdN (S1 0 0 0 29) / 65536 % 8) (sdN (S2 0 0 0 29) / 65536 % 30))) := by rw [hw4, hw3, hw2, hw1]; exact wu7_ok hWS (by omega) (by omega)
    have hf4 := fv_up S3 (k := 2) (sdN (S1 0 0 0 29) / 65536 % 8) (sdN (S2 0 0 0 29) / 65536 % 30) (by decide) (by decide)
    have hF4 := fok_up (k := 2) (sdN (S1 0 0 0 29) / 65536 % 8) (sdN (S2 0 0 0 29) / 65536 % 30) (by decide) (by decide) hF3
    have u4 : up S3 2 0 0 (sdN (S1 0 0 0 29) / 65536 % 8) (sdN (S2 0 0 0 29) / 65536 % 30) 0 0 0 29 = sdN (S2 0 0 0 29) := by rw [up_n (by omega)]; exact u3
    generalize hS4 : up S3 2 0 0 (sdN (S1 0 0 0 29) / 65536 % 8) (sdN (S2 0 0 0 29) / 65536 % 30) = S4 at *
    refine x_iload (pc' := 15) hE dX9_yearsNow_13 rfl rfl ?_
    refine x_iload_n (pc' := 16) hE dX9_yearsNow_15 rfl rfl ?_
    refine x_icmpge (tgt := 60) (pc' := 19) hE dX9_yearsNow_16 (by decide) rfl ⟨by omega, by omega⟩ ⟨by omega, by omega⟩ (fun h1 => ?_) (fun h1 => ?_)
    · refine x_aload_n (pc' := 61) hE dX9_yearsNow_60 rfl rfl ?_
      refine x_cV1 (pc' := 64) hE hM (okM G) hl hR (c_X9_eatenAll l G _ _ (by assumption)) kX9_eatenAll tM_X9_180 (rcvM hM) (by decide) dX9_yearsNow_61 rfl rfl (Nat.le_of_ble_eq_true rfl) (fun σ2 e2 => ?_)
      replace e2 := e2.symm
      subst e2
      refine x_istore (pc' := 66) hE dX9_yearsNow_64 rfl (by decide) rfl rfl ?_
      dsimp only [List.set]
      refine x_aload_n (pc' := 67) hE dX9_yearsNow_66 rfl rfl ?_
      refine x_cV0 (pc' := 70) hE hM (okM G) hl hR (c_X9_back l G _) kX9_back tM_X9_186 (rcvM hM) (by decide) dX9_yearsNow_67 rfl rfl (Nat.le_of_ble_eq_true rfl) (fun σ3 e3 => ?_)
      obtain ⟨hb0, h29⟩ := e3
      have hb := hb0 τ hs
      refine x_iload_n (pc' := 71) hE dX9_yearsNow_70 rfl rfl ?_
      refine x_ifne (tgt := 79) (pc' := 74) hE dX9_yearsNow_71 (by decide) rfl ⟨by omega, by omega⟩ (fun h4 => ?_) (fun h4 => ?_)
      · refine x_aload_n (pc' := 80) hE dX9_yearsNow_79 rfl rfl ?_
        refine gM_29 (pc' := 83) hE hM tF_X9_234 dX9_yearsNow_80 rfl ?_
        refine x_l2i (pc' := 84) hE dX9_yearsNow_83 rfl ?_
        refine x_iret hE dX9_yearsNow_84 ?_
        have e : k = days.toNat := by omega
        subst e
        refine ⟨ri ?_, hb.2⟩
        simp [h4, ← hy1, ← hy2, h29]
      · refine x_iload (pc' := 76) hE dX9_yearsNow_74 rfl rfl ?_
        refine x_goto (tgt := 84) hE dX9_yearsNow_76 (by decide) ?_
        refine x_iret hE dX9_yearsNow_84 ?_
        have e : k = days.toNat := by omega
        subst e
        refine ⟨ri ?_, hb.2⟩
        simp [h4, ← hy1, ← hy2, h29]
    · refine x_aload_n (pc' := 20) hE dX9_yearsNow_19 rfl rfl ?_
      refine x_bipush (pc' := 22) hE dX9_yearsNow_20 rfl (by decide +kernel) ?_
      refine x_cV1 (pc' := 25) hE hM (okM G) hl hR (c_X9_draw l G _ _ (by omega) (by omega) (by omega)) kX9_draw tM_X9_244 (rcvM hM) (by decide) dX9_yearsNow_22 rfl rfl (Nat.le_of_ble_eq_true rfl) (fun σ5 e5 => ?_)
      replace e5 := e5.symm
      subst e5
      rw [hS1]
      refine x_ifne (tgt := 49) (pc' := 28) hE dX9_yearsNow_25 (by decide) rfl ⟨by omega, by omega⟩ (fun h6 => ?_) (fun h6 => ?_)
      · refine x_aload_n (pc' := 50) hE dX9_yearsNow_49 rfl rfl ?_
        refine x_cV1 (pc' := 53) hE hM (okM G) hl hR (c_X9_goDay l G _ _ (by assumption) (by omega) (by assumption)) kX9_goDay tM_X9_173 (rcvM hM) (by decide) dX9_yearsNow_50 rfl rfl (Nat.le_of_ble_eq_true rfl) (fun σ7 e7 => ?_)
        replace e7 := e7.symm
        subst e7
        refine x_pop (pc' := 54) hE dX9_yearsNow_53 rfl rfl ?_
        refine x_iinc (pc' := 57) hE dX9_yearsNow_54 rfl rfl (by decide) rfl rfl ?_
        dsimp only [List.set]
        refine x_goto (tgt := 13) hE dX9_yearsNow_57 (by decide) ?_
        refine ih (n - 1) (by omega) (k + 1) (goT S1) (Sv_goT hs1 hW1) (WOk_mono (goT_ok hW1) (by omega)) (goT_fok hF1) (by rw [fv_goT, hf1, hfS]) (by rw [goT_o _ (by decide) _ _ _ (by decide), u1]; omega) ?_ (by omega) (by omega)
        rw [yrN, ← hy, yrS, if_neg h6, wv_goT, hf1, hfS, hw1, goT_o _ (by decide) _ _ _ (by decide), u1]
      · refine x_aload_n (pc' := 29) hE dX9_yearsNow_28 rfl rfl ?_
        refine x_bipush (pc' := 31) hE dX9_yearsNow_29 rfl (by decide +kernel) ?_
        refine x_cV1 (pc' := 34) hE hM (okM G) hl hR (c_X9_draw l G _ _ (by omega) (by omega) (by omega)) kX9_draw tM_X9_244 (rcvM hM) (by decide) dX9_yearsNow_31 rfl rfl (Nat.le_of_ble_eq_true rfl) (fun σ8 e8 => ?_)
        replace e8 := e8.symm
        subst e8
        rw [hS2]
        refine x_istore (pc' := 36) hE dX9_yearsNow_34 rfl (by decide) rfl rfl ?_
        dsimp only [List.set]
        refine x_aload_n (pc' := 37) hE dX9_yearsNow_36 rfl rfl ?_
        refine gM_4 (pc' := 40) hE hM tF_X9_13 dX9_yearsNow_37 rfl ?_
        refine x_iload (pc' := 42) hE dX9_yearsNow_40 rfl rfl ?_
        refine x_aload_n (pc' := 43) hE dX9_yearsNow_42 rfl rfl ?_
        refine x_bipush (pc' := 45) hE dX9_yearsNow_43 rfl (by decide +kernel) ?_
        refine x_cV1 (pc' := 48) hE hM (okM G) hl hR (c_X9_draw l G _ _ (by omega) (by omega) (by omega)) kX9_draw tM_X9_244 (rcvM hM) (by decide) dX9_yearsNow_45 rfl rfl (Nat.le_of_ble_eq_true rfl) (fun σ9 e9 => ?_)
        replace e9 := e9.symm
        subst e9
        rw [hS3]
        refine sM_2 (pc' := 49) hE hM (by omega) (by omega) dX9_yearsNow_48 rfl ?_
        rw [hS4]
        refine x_aload_n (pc' := 50) hE dX9_yearsNow_49 rfl rfl ?_
        refine x_cV1 (pc' := 53) hE hM (okM G) hl hR (c_X9_goDay l G _ _ (by assumption) (by omega) (by assumption)) kX9_goDay tM_X9_173 (rcvM hM) (by decide) dX9_yearsNow_50 rfl rfl (Nat.le_of_ble_eq_true rfl) (fun σ10 e10 => ?_)
        replace e10 := e10.symm
        subst e10
        refine x_pop (pc' := 54) hE dX9_yearsNow_53 rfl rfl ?_
        refine x_iinc (pc' := 57) hE dX9_yearsNow_54 rfl rfl (by decide) rfl rfl ?_
        dsimp only [List.set]
        refine x_goto (tgt := 13) hE dX9_yearsNow_57 (by decide) ?_
        refine x_fg5 ?_
        refine ih (n - 1) (by omega) (k + 1) (goT S4) (Sv_goT hs4 hW4) (WOk_mono (goT_ok hW4) (by omega)) (goT_fok hF4) (by rw [fv_goT, hf4, hf3, hf2, hf1, hfS]) (by rw [goT_o _ (by decide) _ _ _ (by decide), u4]; omega) ?_ (by omega) (by omega)
        rw [yrN, ← hy, yrS, if_pos h6, wv_goT, hf4, hf3, hf2, hf1, hfS, hw4, hw3, hw2, hw1, goT_o _ (by decide) _ _ _ (by decide), u4, u2, u1]
  refine x_aload_n (pc' := 1) hE dX9_yearsNow_0 rfl rfl ?_
  refine x_cV0 (pc' := 4) hE hM (okM G) hl hR (c_X9_save l G _) kX9_save tM_X9_183 (rcvM hM) (by decide) dX9_yearsNow_1 rfl rfl (Nat.le_of_ble_eq_true rfl) (fun σ11 e11 => ?_)
  obtain ⟨hs, hc⟩ := e11
  generalize σ11 = S at *
  refine x_aload_n (pc' := 5) hE dX9_yearsNow_4 rfl rfl ?_
  refine x_iload_n (pc' := 6) hE dX9_yearsNow_5 rfl rfl ?_
  refine x_i2l (pc' := 7) hE dX9_yearsNow_6 rfl ⟨by omega, by omega⟩ ?_
  refine pM_29 (pc' := 10) hE hM tF_X9_234 dX9_yearsNow_7 rfl ?_
  refine x_iconst (pc' := 11) hE dX9_yearsNow_10 rfl ?_
  refine x_istore (pc' := 13) hE dX9_yearsNow_11 rfl (by decide) rfl rfl ?_
  dsimp only [List.set]
  have e29 : up S 0 0 0 29 seed 0 0 0 29 = seed := up_s _ _ _ _ _ _
  have hw0 := wv_up29 S seed
  exact loop days.toNat 0 (up S 0 0 0 29 seed) (Sv_up29 hs) (by rw [hw0, hc.wv]; simpa using hW) (fok_up29 (hc.fok hF)) (by rw [fv_up29, hc.fv]) (by rw [e29]; omega) (by rw [hw0, e29, hc.wv]; rfl) (by omega) (by omega)
set_option maxHeartbeats 4000000 in
set_option maxRecDepth 10000 in
theorem c_X9_fastsOn (l : Launch) (G : GM) (τ : St) (D : Int) (hW : WOk D (wv τ)) (hD : D ≤ 900000) (hF : FOk (τ 0 0 0 1) (τ 1 0 0)) (p fg : Int) (p0 : 0 ≤ p) (p1 : p < 4) (v0 : 0 ≤ fg) (v1 : fg ≤ 29) : Ct l (YM G) yX9_fastsOn (.code yX9_fastsOn cX9_fastsOn 4 (some .int)) 2 [.ref (aM G 0), .int (iN p), .int (iN fg)] τ (fun v τ' => v = some (.int (iN (nailG (fv τ) (τ 3 0 0 p) (τ 5 0 0 p) (τ 0 0 0 3) fg))) ∧ τ' = τ) := by
  refine Ct_of (own := RX9) [some (.ref (aM G 0)), some (.int (iN p)), some (.int (iN fg)), none] rfl rfl (Nat.le_of_ble_eq_true rfl) rfl ?_
  intro E hE hM hl hR
  obtain ⟨hnp, hnf, hday, hpp, hff, hcc⟩ := WT_of hW
  have q1 := hpp p (by omega) (by omega)
  have loop : ∀ (n : Nat) (k : Int), 0 ≤ k → k ≤ 30 → 30 - k = n → nailG (fv τ) (τ 3 0 0 p) (τ 5 0 0 p) (τ 0 0 0 3) fg = runF (fun m => fsB (fv τ) (τ 3 0 0 p) fg (τ 5 0 0 p) (τ 0 0 0 3 + m)) (30 - k).toNat k → VV E 4 (AS (YM G)) (Qm (YM G) (fun v τ' => v = some (.int (iN (nailG (fv τ) (τ 3 0 0 p) (τ 5 0 0 p) (τ 0 0 0 3) fg))) ∧ τ' = τ) E) (Rh (YM G) (τ)) 2 [some (.ref (aM G 0)), some (.int (iN p)), some (.int (iN fg)), some (.int (iN (k)))] [] := by
    intro n
    induction n using Nat.strongRecOn with
    | _ n ih =>
    intro k g0 g1 g2 g3
    refine x_iload_n (pc' := 3) hE dX9_fastsOn_2 rfl rfl ?_
    refine x_bipush (pc' := 5) hE dX9_fastsOn_3 rfl (by decide +kernel) ?_
    refine x_icmpge (tgt := 40) (pc' := 8) hE dX9_fastsOn_5 (by decide) rfl ⟨by omega, by omega⟩ ⟨by omega, by omega⟩ (fun h1 => ?_) (fun h1 => ?_)
    · refine x_iload_n (pc' := 41) hE dX9_fastsOn_40 rfl rfl ?_
      refine x_iret hE dX9_fastsOn_41 ?_
      refine ⟨ri ?_, rfl⟩
      rw [g3, show (30 - k).toNat = 0 by omega]
      rfl
    · refine x_aload_n (pc' := 9) hE dX9_fastsOn_8 rfl rfl ?_
      refine x_aload_n (pc' := 10) hE dX9_fastsOn_9 rfl rfl ?_
      refine gM_6 (pc' := 13) hE hM tF_X9_16 dX9_fastsOn_10 rfl ?_
      refine x_iload_n (pc' := 14) hE dX9_fastsOn_13 rfl rfl ?_
      refine aM_3 (pc' := 15) hE hM (by omega) (by omega) dX9_fastsOn_14 rfl ?_
      refine x_iload_n (pc' := 16) hE dX9_fastsOn_15 rfl rfl ?_
      refine x_aload_n (pc' := 17) hE dX9_fastsOn_16 rfl rfl ?_
      refine gM_8 (pc' := 20) hE hM tF_X9_22 dX9_fastsOn_17 rfl ?_
      refine x_iload_n (pc' := 21) hE dX9_fastsOn_20 rfl rfl ?_
      refine aM_5 (pc' := 22) hE hM (by omega) (by omega) dX9_fastsOn_21 rfl ?_
      refine x_aload_n (pc' := 23) hE dX9_fastsOn_22 rfl rfl ?_
      refine gM_3 (pc' := 26) hE hM tF_X9_146 dX9_fastsOn_23 rfl ?_
      refine x_iload_n (pc' := 27) hE dX9_fastsOn_26 rfl rfl ?_
      refine x_iadd (pc' := 28) hE dX9_fastsOn_27 rfl ?_
      refine x_cV1 (pc' := 31) hE hM (okM G) hl hR (c_X9_fastsBy l G _ _ _ _ _ (by assumption) (by omega) (by omega) (by omega) (by omega)) kX9_fastsBy tM_X9_129 (rcvM hM) (by decide) dX9_fastsOn_28 rfl rfl (Nat.le_of_ble_eq_true rfl) (fun σ2 e2 => ?_)
      replace e2 := e2.symm
      subst e2
      refine x_ifeqB (tgt := 40) (pc' := 34) hE dX9_fastsOn_31 (by decide) rfl (fun h3 => ?_) (fun h3 => ?_)
      · try simp only [decide_eq_true_eq, decide_eq_false_iff_not] at h3
        refine x_iload_n (pc' := 41) hE dX9_fastsOn_40 rfl rfl ?_
        refine x_iret hE dX9_fastsOn_41 ?_
        refine ⟨ri ?_, rfl⟩
        rw [g3, show (30 - k).toNat = (30 - (k + 1)).toNat + 1 by omega, runF, if_neg (by simp [h3])]
      · try simp only [decide_eq_true_eq, decide_eq_false_iff_not] at h3
        refine x_iinc (pc' := 37) hE dX9_fastsOn_34 rfl rfl (by decide) rfl rfl ?_
        dsimp only [List.set]
        refine x_goto (tgt := 2) hE dX9_fastsOn_37 (by decide) ?_
        refine ih (n - 1) (by omega) (k + 1) (by omega) (by omega) (by omega) ?_
        rw [g3, show (30 - k).toNat = (30 - (k + 1)).toNat + 1 by omega, runF, if_pos h3]
  refine x_iconst (pc' := 1) hE dX9_fastsOn_0 rfl ?_
  refine x_istore_n (pc' := 2) hE dX9_fastsOn_1 rfl (by decide) rfl rfl ?_
  dsimp only [List.set]
  exact loop 30 0 (by omega) (by omega) (by omega) rfl
theorem x_fg6 {E : EV} {nL : Nat} {A : Nat → Prop} {Q : State → Prop} {J : Heap → Prop} {pc : Nat} {a0 a1 a2 a3 a4 a5 a6 : Option Value} {st : List Value} (k : VV E nL A Q J pc [a0, a1, a2, a3, a4, a5, none] st) : VV E nL A Q J pc [a0, a1, a2, a3, a4, a5, a6] st := x_lvf (lv' := [a0, a1, a2, a3, a4, a5, none]) ⟨Or.inr rfl, Or.inr rfl, Or.inr rfl, Or.inr rfl, Or.inr rfl, Or.inr rfl, Or.inl rfl, trivial⟩ k
set_option maxHeartbeats 4000000 in
set_option maxRecDepth 10000 in
theorem c_X9_nailNow (l : Launch) (G : GM) (τ : St) (D : Int) (hW : WOk D (wv τ)) (hD : D ≤ 900000) (hF : FOk (τ 0 0 0 1) (τ 1 0 0)) (p wh : Int) (p0 : 0 ≤ p) (p1 : p < 4) (w0 : 0 ≤ wh) (w1 : wh ≤ 1) : Ct l (YM G) yX9_nailNow (.code yX9_nailNow cX9_nailNow 7 (some .int)) 3 [.ref (aM G 0), .int (iN p), .int (iN wh)] τ (fun v τ' => v = some (.int (iN (nailN (fv τ) (τ 3 0 0 p) (τ 5 0 0 p) (τ 0 0 0 3) wh))) ∧ τ' = τ) := by
  refine Ct_of (own := RX9) [some (.ref (aM G 0)), some (.int (iN p)), some (.int (iN wh)), none, none, none, none] rfl rfl (Nat.le_of_ble_eq_true rfl) rfl ?_
  intro E hE hM hl hR
  have loop : ∀ (n : Nat) (k : Int), 0 ≤ k → k ≤ 30 → 30 - k = n → VV E 7 (AS (YM G)) (Qm (YM G) (fun v τ' => v = some (.int (iN (nailN (fv τ) (τ 3 0 0 p) (τ 5 0 0 p) (τ 0 0 0 3) wh))) ∧ τ' = τ) E) (Rh (YM G) (τ)) 8 [some (.ref (aM G 0)), some (.int (iN p)), some (.int (iN wh)), some (.int (iN (nailA (nailG (fv τ) (τ 3 0 0 p) (τ 5 0 0 p) (τ 0 0 0 3)) (k).toNat).1)), some (.int (iN (nailA (nailG (fv τ) (τ 3 0 0 p) (τ 5 0 0 p) (τ 0 0 0 3)) (k).toNat).2)), some (.int (iN (k))), none] [] := by
    intro n
    induction n using Nat.strongRecOn with
    | _ n ih =>
    intro k g0 g1 g2
    have hb := nailA_bd (g := (nailG (fv τ) (τ 3 0 0 p) (τ 5 0 0 p) (τ 0 0 0 3))) (fun v => nailG_bd _ _ _ _ v) k.toNat
    have hg := nailG_bd (fv τ) (τ 3 0 0 p) (τ 5 0 0 p) (τ 0 0 0 3) k
    refine x_iload (pc' := 10) hE dX9_nailNow_8 rfl rfl ?_
    refine x_bipush (pc' := 12) hE dX9_nailNow_10 rfl (by decide +kernel) ?_
    refine x_icmpge (tgt := 60) (pc' := 15) hE dX9_nailNow_12 (by decide) rfl ⟨by omega, by omega⟩ ⟨by omega, by omega⟩ (fun h1 => ?_) (fun h1 => ?_)
    · refine x_iload_n (pc' := 61) hE dX9_nailNow_60 rfl rfl ?_
      refine x_ifeq (tgt := 69) (pc' := 64) hE dX9_nailNow_61 (by decide) rfl ⟨by omega, by omega⟩ (fun h2 => ?_) (fun h2 => ?_)
      · refine x_iload_n (pc' := 70) hE dX9_nailNow_69 rfl rfl ?_
        refine x_goto (tgt := 75) hE dX9_nailNow_70 (by decide) ?_
        refine x_iret hE dX9_nailNow_75 ?_
        refine ⟨ri ?_, rfl⟩
        unfold nailN
        generalize hk9 : k.toNat = kk at *
        have e : kk = 30 := by omega
        subst e
        simp [h2]
      · refine x_iload_n (pc' := 65) hE dX9_nailNow_64 rfl rfl ?_
        refine x_iconst (pc' := 66) hE dX9_nailNow_65 rfl ?_
        refine x_icmpne (tgt := 73) (pc' := 69) hE dX9_nailNow_66 (by decide) rfl ⟨by omega, by omega⟩ ⟨by omega, by omega⟩ (fun h3 => ?_) (fun h3 => ?_)
        · refine x_iload (pc' := 75) hE dX9_nailNow_73 rfl rfl ?_
          refine x_iret hE dX9_nailNow_75 ?_
          refine ⟨ri ?_, rfl⟩
          unfold nailN
          generalize hk9 : k.toNat = kk at *
          have e : kk = 30 := by omega
          subst e
          simp [h2, h3]
        · refine x_iload_n (pc' := 70) hE dX9_nailNow_69 rfl rfl ?_
          refine x_goto (tgt := 75) hE dX9_nailNow_70 (by decide) ?_
          refine x_iret hE dX9_nailNow_75 ?_
          refine ⟨ri ?_, rfl⟩
          unfold nailN
          generalize hk9 : k.toNat = kk at *
          have e : kk = 30 := by omega
          subst e
          simp [h2, h3]
    · refine x_aload_n (pc' := 16) hE dX9_nailNow_15 rfl rfl ?_
      refine x_iload_n (pc' := 17) hE dX9_nailNow_16 rfl rfl ?_
      refine x_iload (pc' := 19) hE dX9_nailNow_17 rfl rfl ?_
      refine x_cV1 (pc' := 22) hE hM (okM G) hl hR (c_X9_fastsOn l G _ _ (by assumption) (by omega) (by assumption) _ _ (by omega) (by omega) (by omega) (by omega)) kX9_fastsOn tM_X9_214 (rcvM hM) (by decide) dX9_nailNow_19 rfl rfl (Nat.le_of_ble_eq_true rfl) (fun σ4 e4 => ?_)
      replace e4 := e4.symm
      subst e4
      refine x_istore (pc' := 24) hE dX9_nailNow_22 rfl (by decide) rfl rfl ?_
      dsimp only [List.set]
      refine x_iload (pc' := 26) hE dX9_nailNow_24 rfl rfl ?_
      refine x_iload (pc' := 28) hE dX9_nailNow_26 rfl rfl ?_
      refine x_icmple (tgt := 36) (pc' := 31) hE dX9_nailNow_28 (by decide) rfl ⟨by omega, by omega⟩ ⟨by omega, by omega⟩ (fun h5 => ?_) (fun h5 => ?_)
      · refine x_iload_n (pc' := 37) hE dX9_nailNow_36 rfl rfl ?_
        refine x_istore_n (pc' := 38) hE dX9_nailNow_37 rfl (by decide) rfl rfl ?_
        dsimp only [List.set]
        refine x_iload (pc' := 40) hE dX9_nailNow_38 rfl rfl ?_
        refine x_iload (pc' := 42) hE dX9_nailNow_40 rfl rfl ?_
        refine x_icmple (tgt := 50) (pc' := 45) hE dX9_nailNow_42 (by decide) rfl ⟨by omega, by omega⟩ ⟨by omega, by omega⟩ (fun h6 => ?_) (fun h6 => ?_)
        · refine x_iload (pc' := 52) hE dX9_nailNow_50 rfl rfl ?_
          refine x_istore (pc' := 54) hE dX9_nailNow_52 rfl (by decide) rfl rfl ?_
          dsimp only [List.set]
          refine x_iinc (pc' := 57) hE dX9_nailNow_54 rfl rfl (by decide) rfl rfl ?_
          dsimp only [List.set]
          refine x_goto (tgt := 8) hE dX9_nailNow_57 (by decide) ?_
          refine x_fg6 ?_
          refine x_lve (lv' := [some (.ref (aM G 0)), some (.int (iN p)), some (.int (iN wh)), some (.int (iN (nailA (nailG (fv τ) (τ 3 0 0 p) (τ 5 0 0 p) (τ 0 0 0 3)) (k + 1).toNat).1)), some (.int (iN (nailA (nailG (fv τ) (τ 3 0 0 p) (τ 5 0 0 p) (τ 0 0 0 3)) (k + 1).toNat).2)), some (.int (iN (k + 1))), none]) ?_ (ih (n - 1) (by omega) (k + 1) (by omega) (by omega) (by omega))
          rw [nailA_s _ g0]
          split <;> first | rfl | (exfalso; omega)
        · refine x_iload (pc' := 47) hE dX9_nailNow_45 rfl rfl ?_
          refine x_goto (tgt := 52) hE dX9_nailNow_47 (by decide) ?_
          refine x_istore (pc' := 54) hE dX9_nailNow_52 rfl (by decide) rfl rfl ?_
          dsimp only [List.set]
          refine x_iinc (pc' := 57) hE dX9_nailNow_54 rfl rfl (by decide) rfl rfl ?_
          dsimp only [List.set]
          refine x_goto (tgt := 8) hE dX9_nailNow_57 (by decide) ?_
          refine x_fg6 ?_
          refine x_lve (lv' := [some (.ref (aM G 0)), some (.int (iN p)), some (.int (iN wh)), some (.int (iN (nailA (nailG (fv τ) (τ 3 0 0 p) (τ 5 0 0 p) (τ 0 0 0 3)) (k + 1).toNat).1)), some (.int (iN (nailA (nailG (fv τ) (τ 3 0 0 p) (τ 5 0 0 p) (τ 0 0 0 3)) (k + 1).toNat).2)), some (.int (iN (k + 1))), none]) ?_ (ih (n - 1) (by omega) (k + 1) (by omega) (by omega) (by omega))
          rw [nailA_s _ g0]
          split <;> first | rfl | (exfalso; omega)
      · refine x_iload (pc' := 33) hE dX9_nailNow_31 rfl rfl ?_
        refine x_goto (tgt := 37) hE dX9_nailNow_33 (by decide) ?_
        refine x_istore_n (pc' := 38) hE dX9_nailNow_37 rfl (by decide) rfl rfl ?_
        dsimp only [List.set]
        refine x_iload (pc' := 40) hE dX9_nailNow_38 rfl rfl ?_
        refine x_iload (pc' := 42) hE dX9_nailNow_40 rfl rfl ?_
        refine x_icmple (tgt := 50) (pc' := 45) hE dX9_nailNow_42 (by decide) rfl ⟨by omega, by omega⟩ ⟨by omega, by omega⟩ (fun h7 => ?_) (fun h7 => ?_)
        · refine x_iload (pc' := 52) hE dX9_nailNow_50 rfl rfl ?_
          refine x_istore (pc' := 54) hE dX9_nailNow_52 rfl (by decide) rfl rfl ?_
          dsimp only [List.set]
          refine x_iinc (pc' := 57) hE dX9_nailNow_54 rfl rfl (by decide) rfl rfl ?_
          dsimp only [List.set]
          refine x_goto (tgt := 8) hE dX9_nailNow_57 (by decide) ?_
          refine x_fg6 ?_
          refine x_lve (lv' := [some (.ref (aM G 0)), some (.int (iN p)), some (.int (iN wh)), some (.int (iN (nailA (nailG (fv τ) (τ 3 0 0 p) (τ 5 0 0 p) (τ 0 0 0 3)) (k + 1).toNat).1)), some (.int (iN (nailA (nailG (fv τ) (τ 3 0 0 p) (τ 5 0 0 p) (τ 0 0 0 3)) (k + 1).toNat).2)), some (.int (iN (k + 1))), none]) ?_ (ih (n - 1) (by omega) (k + 1) (by omega) (by omega) (by omega))
          rw [nailA_s _ g0]
          split <;> first | rfl | (exfalso; omega)
        · refine x_iload (pc' := 47) hE dX9_nailNow_45 rfl rfl ?_
          refine x_goto (tgt := 52) hE dX9_nailNow_47 (by decide) ?_
          refine x_istore (pc' := 54) hE dX9_nailNow_52 rfl (by decide) rfl rfl ?_
          dsimp only [List.set]
          refine x_iinc (pc' := 57) hE dX9_nailNow_54 rfl rfl (by decide) rfl rfl ?_
          dsimp only [List.set]
          refine x_goto (tgt := 8) hE dX9_nailNow_57 (by decide) ?_
          refine x_fg6 ?_
          refine x_lve (lv' := [some (.ref (aM G 0)), some (.int (iN p)), some (.int (iN wh)), some (.int (iN (nailA (nailG (fv τ) (τ 3 0 0 p) (τ 5 0 0 p) (τ 0 0 0 3)) (k + 1).toNat).1)), some (.int (iN (nailA (nailG (fv τ) (τ 3 0 0 p) (τ 5 0 0 p) (τ 0 0 0 3)) (k + 1).toNat).2)), some (.int (iN (k + 1))), none]) ?_ (ih (n - 1) (by omega) (k + 1) (by omega) (by omega) (by omega))
          rw [nailA_s _ g0]
          split <;> first | rfl | (exfalso; omega)
  refine x_iconst (pc' := 1) hE dX9_nailNow_0 rfl ?_
  refine x_istore_n (pc' := 2) hE dX9_nailNow_1 rfl (by decide) rfl rfl ?_
  dsimp only [List.set]
  refine x_iconst (pc' := 3) hE dX9_nailNow_2 rfl ?_
  refine x_istore (pc' := 5) hE dX9_nailNow_3 rfl (by decide) rfl rfl ?_
  dsimp only [List.set]
  refine x_iconst (pc' := 6) hE dX9_nailNow_5 rfl ?_
  refine x_istore (pc' := 8) hE dX9_nailNow_6 rfl (by decide) rfl rfl ?_
  dsimp only [List.set]
  exact loop 30 0 (by omega) (by omega) (by omega)
set_option maxHeartbeats 4000000 in
set_option maxRecDepth 10000 in
theorem c_X9_isSeenSo (l : Launch) (G : GM) (τ : St) (D : Int) (hW : WOk D (wv τ)) (hD : D ≤ 900000) (hF : FOk (τ 0 0 0 1) (τ 1 0 0)) (hs1 : 0 ≤ τ 0 0 0 13 ∧ τ 0 0 0 13 < 4) (hs2 : 0 ≤ τ 0 0 0 14 ∧ τ 0 0 0 14 ≤ 1000000) (hs3 : 0 ≤ τ 0 0 0 15 ∧ τ 0 0 0 15 ≤ 8) (hs4 : ∀ j, 0 ≤ j → j < 8 → 0 ≤ τ 9 0 0 j ∧ τ 9 0 0 j ≤ 1) (k g : Int) (k0 : 0 ≤ k) (k1 : k ≤ 4) (e0 : 0 ≤ g) (e1 : g ≤ 9) : Ct l (YM G) yX9_isSeenSo (.code yX9_isSeenSo cX9_isSeenSo 6 (some .boolean)) 2 [.ref (aM G 0), .int (iN k), .int (iN g)] τ (fun v τ' => v = some (.int (bI (snB (fv τ) (τ 2 0 0 (τ 4 0 0 (τ 0 0 0 13))) k g (τ 0 0 0 14) (τ 9 0 0) (τ 0 0 0 15).toNat))) ∧ τ' = τ) := by
  refine Ct_of (own := RX9) [some (.ref (aM G 0)), some (.int (iN k)), some (.int (iN g)), none, none, none] rfl rfl (Nat.le_of_ble_eq_true rfl) rfl ?_
  intro E hE hM hl hR
  obtain ⟨hnp, hnf, hday, hpp, hff, hcc⟩ := WT_of hW
  have q1 := hpp (τ 0 0 0 13) (by omega) (by omega)
  have q2 := hcc (τ 4 0 0 (τ 0 0 0 13)) (by omega) (by omega)
  have loop : ∀ (n : Nat) (j : Int), 0 ≤ j → j ≤ τ 0 0 0 15 → τ 0 0 0 15 - j = n → VV E 6 (AS (YM G)) (Qm (YM G) (fun v τ' => v = some (.int (bI (snB (fv τ) (τ 2 0 0 (τ 4 0 0 (τ 0 0 0 13))) k g (τ 0 0 0 14) (τ 9 0 0) (τ 0 0 0 15).toNat))) ∧ τ' = τ) E) (Rh (YM G) (τ)) 5 [some (.ref (aM G 0)), some (.int (iN k)), some (.int (iN g)), some (.int (bI (allU (fun j => fsB (fv τ) k (τ 2 0 0 (τ 4 0 0 (τ 0 0 0 13))) g (τ 0 0 0 14 + j) == decide (τ 9 0 0 j = 0)) j.toNat))), some (.int (iN (j))), none] [] := by
    intro n
    induction n using Nat.strongRecOn with
    | _ n ih =>
    intro j g0 g1 g2
    refine x_iload (pc' := 7) hE dX9_isSeenSo_5 rfl rfl ?_
    refine x_aload_n (pc' := 8) hE dX9_isSeenSo_7 rfl rfl ?_
    refine gM_15 (pc' := 11) hE hM tF_X9_220 dX9_isSeenSo_8 rfl ?_
    refine x_icmpge (tgt := 79) (pc' := 14) hE dX9_isSeenSo_11 (by decide) rfl ⟨by omega, by omega⟩ ⟨by omega, by omega⟩ (fun h1 => ?_) (fun h1 => ?_)
    · refine x_iload_n (pc' := 80) hE dX9_isSeenSo_79 rfl rfl ?_
      refine x_zret hE dX9_isSeenSo_80 (nz_b _) ?_
      have e : j = τ 0 0 0 15 := by omega
      subst e
      exact ⟨rfl, rfl⟩
    · refine x_aload_n (pc' := 15) hE dX9_isSeenSo_14 rfl rfl ?_
      refine x_iload_n (pc' := 16) hE dX9_isSeenSo_15 rfl rfl ?_
      refine x_aload_n (pc' := 17) hE dX9_isSeenSo_16 rfl rfl ?_
      refine gM_4 (pc' := 20) hE hM tF_X9_13 dX9_isSeenSo_17 rfl ?_
      refine x_aload_n (pc' := 21) hE dX9_isSeenSo_20 rfl rfl ?_
      refine gM_7 (pc' := 24) hE hM tF_X9_19 dX9_isSeenSo_21 rfl ?_
      refine x_aload_n (pc' := 25) hE dX9_isSeenSo_24 rfl rfl ?_
      refine gM_13 (pc' := 28) hE hM tF_X9_34 dX9_isSeenSo_25 rfl ?_
      refine aM_4 (pc' := 29) hE hM (by omega) (by omega) dX9_isSeenSo_28 rfl ?_
      refine aM_2 (pc' := 30) hE hM (by omega) (by omega) dX9_isSeenSo_29 rfl ?_
      refine x_iload_n (pc' := 31) hE dX9_isSeenSo_30 rfl rfl ?_
      refine x_aload_n (pc' := 32) hE dX9_isSeenSo_31 rfl rfl ?_
      refine gM_14 (pc' := 35) hE hM tF_X9_223 dX9_isSeenSo_32 rfl ?_
      refine x_iload (pc' := 37) hE dX9_isSeenSo_35 rfl rfl ?_
      refine x_iadd (pc' := 38) hE dX9_isSeenSo_37 rfl ?_
      refine x_cV1 (pc' := 41) hE hM (okM G) hl hR (c_X9_fastsBy l G _ _ _ _ _ (by assumption) (by omega) (by omega) (by omega) (by omega)) kX9_fastsBy tM_X9_129 (rcvM hM) (by decide) dX9_isSeenSo_38 rfl rfl (Nat.le_of_ble_eq_true rfl) (fun σ2 e2 => ?_)
      replace e2 := e2.symm
      subst e2
      refine x_istore (pc' := 43) hE dX9_isSeenSo_41 rfl (by decide) rfl rfl ?_
      dsimp only [List.set]
      refine x_iload_n (pc' := 44) hE dX9_isSeenSo_43 rfl rfl ?_
      refine x_ifeqB (tgt := 71) (pc' := 47) hE dX9_isSeenSo_44 (by decide) rfl (fun h3 => ?_) (fun h3 => ?_)
      · try simp only [decide_eq_true_eq, decide_eq_false_iff_not] at h3
        refine x_iconst (pc' := 72) hE dX9_isSeenSo_71 rfl ?_
        refine x_istore_n (pc' := 73) hE dX9_isSeenSo_72 rfl (by decide) rfl rfl ?_
        dsimp only [List.set]
        refine x_iinc (pc' := 76) hE dX9_isSeenSo_73 rfl rfl (by decide) rfl rfl ?_
        dsimp only [List.set]
        refine x_goto (tgt := 5) hE dX9_isSeenSo_76 (by decide) ?_
        have hb : allU (fun j => fsB (fv τ) k (τ 2 0 0 (τ 4 0 0 (τ 0 0 0 13))) g (τ 0 0 0 14 + j) == decide (τ 9 0 0 j = 0)) (j + 1).toNat = false := by
          rw [allU_s _ g0]
          simp [h3]
        refine x_fg5 ?_
        refine x_lve (lv' := [some (.ref (aM G 0)), some (.int (iN k)), some (.int (iN g)), some (.int (bI (allU (fun j => fsB (fv τ) k (τ 2 0 0 (τ 4 0 0 (τ 0 0 0 13))) g (τ 0 0 0 14 + j) == decide (τ 9 0 0 j = 0)) (j + 1).toNat))), some (.int (iN ((j + 1)))), none]) (by rw [hb, bI_f]) (ih (n - 1) (by omega) (j + 1) (by omega) (by omega) (by omega))
      · try simp only [decide_eq_true_eq, decide_eq_false_iff_not] at h3
        have q3 := hs4 j (by omega) (by omega)
        refine x_iload (pc' := 49) hE dX9_isSeenSo_47 rfl rfl ?_
        refine x_aload_n (pc' := 50) hE dX9_isSeenSo_49 rfl rfl ?_
        refine gM_16 (pc' := 53) hE hM tF_X9_38 dX9_isSeenSo_50 rfl ?_
        refine x_iload (pc' := 55) hE dX9_isSeenSo_53 rfl rfl ?_
        refine aM_9 (pc' := 56) hE hM (by omega) (by omega) dX9_isSeenSo_55 rfl ?_
        refine x_ifne (tgt := 63) (pc' := 59) hE dX9_isSeenSo_56 (by decide) rfl ⟨by omega, by omega⟩ (fun h4 => ?_) (fun h4 => ?_)
        · refine x_iconst (pc' := 64) hE dX9_isSeenSo_63 rfl ?_
          refine x_icmpneB0 (tgt := 71) (pc' := 67) hE dX9_isSeenSo_64 (by decide) rfl (fun h5 => ?_) (fun h5 => ?_)
          · try simp only [decide_eq_true_eq, decide_eq_false_iff_not] at h5
            refine x_iconst (pc' := 72) hE dX9_isSeenSo_71 rfl ?_
            refine x_istore_n (pc' := 73) hE dX9_isSeenSo_72 rfl (by decide) rfl rfl ?_
            dsimp only [List.set]
            refine x_iinc (pc' := 76) hE dX9_isSeenSo_73 rfl rfl (by decide) rfl rfl ?_
            dsimp only [List.set]
            refine x_goto (tgt := 5) hE dX9_isSeenSo_76 (by decide) ?_
            have hb : allU (fun j => fsB (fv τ) k (τ 2 0 0 (τ 4 0 0 (τ 0 0 0 13))) g (τ 0 0 0 14 + j) == decide (τ 9 0 0 j = 0)) (j + 1).toNat = false := by
              rw [allU_s _ g0]
              simp [h3, h4, h5]
            refine x_fg5 ?_
            refine x_lve (lv' := [some (.ref (aM G 0)), some (.int (iN k)), some (.int (iN g)), some (.int (bI (allU (fun j => fsB (fv τ) k (τ 2 0 0 (τ 4 0 0 (τ 0 0 0 13))) g (τ 0 0 0 14 + j) == decide (τ 9 0 0 j = 0)) (j + 1).toNat))), some (.int (iN ((j + 1)))), none]) (by rw [hb, bI_f]) (ih (n - 1) (by omega) (j + 1) (by omega) (by omega) (by omega))
          · try simp only [decide_eq_true_eq, decide_eq_false_iff_not] at h5
            refine x_iconst (pc' := 68) hE dX9_isSeenSo_67 rfl ?_
            refine x_goto (tgt := 72) hE dX9_isSeenSo_68 (by decide) ?_
            refine x_istore_n (pc' := 73) hE dX9_isSeenSo_72 rfl (by decide) rfl rfl ?_
            dsimp only [List.set]
            refine x_iinc (pc' := 76) hE dX9_isSeenSo_73 rfl rfl (by decide) rfl rfl ?_
            dsimp only [List.set]
            refine x_goto (tgt := 5) hE dX9_isSeenSo_76 (by decide) ?_
            have hb : allU (fun j => fsB (fv τ) k (τ 2 0 0 (τ 4 0 0 (τ 0 0 0 13))) g (τ 0 0 0 14 + j) == decide (τ 9 0 0 j = 0)) (j + 1).toNat = true := by
              rw [allU_s _ g0]
              simp [h3, h4, h5]
            refine x_fg5 ?_
            refine x_lve (lv' := [some (.ref (aM G 0)), some (.int (iN k)), some (.int (iN g)), some (.int (bI (allU (fun j => fsB (fv τ) k (τ 2 0 0 (τ 4 0 0 (τ 0 0 0 13))) g (τ 0 0 0 14 + j) == decide (τ 9 0 0 j = 0)) (j + 1).toNat))), some (.int (iN ((j + 1)))), none]) (by rw [hb, bI_t]) (ih (n - 1) (by omega) (j + 1) (by omega) (by omega) (by omega))
        · refine x_iconst (pc' := 60) hE dX9_isSeenSo_59 rfl ?_
          refine x_goto (tgt := 64) hE dX9_isSeenSo_60 (by decide) ?_
          refine x_icmpneB1 (tgt := 71) (pc' := 67) hE dX9_isSeenSo_64 (by decide) rfl (fun h6 => ?_) (fun h6 => ?_)
          · try simp only [decide_eq_true_eq, decide_eq_false_iff_not] at h6
            refine x_iconst (pc' := 72) hE dX9_isSeenSo_71 rfl ?_
            refine x_istore_n (pc' := 73) hE dX9_isSeenSo_72 rfl (by decide) rfl rfl ?_
            dsimp only [List.set]
            refine x_iinc (pc' := 76) hE dX9_isSeenSo_73 rfl rfl (by decide) rfl rfl ?_
            dsimp only [List.set]
            refine x_goto (tgt := 5) hE dX9_isSeenSo_76 (by decide) ?_
            have hb : allU (fun j => fsB (fv τ) k (τ 2 0 0 (τ 4 0 0 (τ 0 0 0 13))) g (τ 0 0 0 14 + j) == decide (τ 9 0 0 j = 0)) (j + 1).toNat = false := by
              rw [allU_s _ g0]
              simp [h3, h4, h6]
            refine x_fg5 ?_
            refine x_lve (lv' := [some (.ref (aM G 0)), some (.int (iN k)), some (.int (iN g)), some (.int (bI (allU (fun j => fsB (fv τ) k (τ 2 0 0 (τ 4 0 0 (τ 0 0 0 13))) g (τ 0 0 0 14 + j) == decide (τ 9 0 0 j = 0)) (j + 1).toNat))), some (.int (iN ((j + 1)))), none]) (by rw [hb, bI_f]) (ih (n - 1) (by omega) (j + 1) (by omega) (by omega) (by omega))
          · try simp only [decide_eq_true_eq, decide_eq_false_iff_not] at h6
            refine x_iconst (pc' := 68) hE dX9_isSeenSo_67 rfl ?_
            refine x_goto (tgt := 72) hE dX9_isSeenSo_68 (by decide) ?_
            refine x_istore_n (pc' := 73) hE dX9_isSeenSo_72 rfl (by decide) rfl rfl ?_
            dsimp only [List.set]
            refine x_iinc (pc' := 76) hE dX9_isSeenSo_73 rfl rfl (by decide) rfl rfl ?_
            dsimp only [List.set]
            refine x_goto (tgt := 5) hE dX9_isSeenSo_76 (by decide) ?_
            have hb : allU (fun j => fsB (fv τ) k (τ 2 0 0 (τ 4 0 0 (τ 0 0 0 13))) g (τ 0 0 0 14 + j) == decide (τ 9 0 0 j = 0)) (j + 1).toNat = true := by
              rw [allU_s _ g0]
              simp [h3, h4, h6]
            refine x_fg5 ?_
            refine x_lve (lv' := [some (.ref (aM G 0)), some (.int (iN k)), some (.int (iN g)), some (.int (bI (allU (fun j => fsB (fv τ) k (τ 2 0 0 (τ 4 0 0 (τ 0 0 0 13))) g (τ 0 0 0 14 + j) == decide (τ 9 0 0 j = 0)) (j + 1).toNat))), some (.int (iN ((j + 1)))), none]) (by rw [hb, bI_t]) (ih (n - 1) (by omega) (j + 1) (by omega) (by omega) (by omega))
  refine x_iconst (pc' := 1) hE dX9_isSeenSo_0 rfl ?_
  refine x_istore_n (pc' := 2) hE dX9_isSeenSo_1 rfl (by decide) rfl rfl ?_
  dsimp only [List.set]
  refine x_iconst (pc' := 3) hE dX9_isSeenSo_2 rfl ?_
  refine x_istore (pc' := 5) hE dX9_isSeenSo_3 rfl (by decide) rfl rfl ?_
  dsimp only [List.set]
  refine x_lve (lv' := [some (.ref (aM G 0)), some (.int (iN k)), some (.int (iN g)), some (.int (bI (allU (fun j => fsB (fv τ) k (τ 2 0 0 (τ 4 0 0 (τ 0 0 0 13))) g (τ 0 0 0 14 + j) == decide (τ 9 0 0 j = 0)) (0 : Int).toNat))), some (.int (iN (0))), none]) (by rw [show allU (fun j => fsB (fv τ) k (τ 2 0 0 (τ 4 0 0 (τ 0 0 0 13))) g (τ 0 0 0 14 + j) == decide (τ 9 0 0 j = 0)) (0 : Int).toNat = true from rfl, bI_t]) (loop (τ 0 0 0 15).toNat 0 (by omega) (by omega) (by omega))
theorem x_fg4 {E : EV} {nL : Nat} {A : Nat → Prop} {Q : State → Prop} {J : Heap → Prop} {pc : Nat} {a0 a1 a2 a3 a4 : Option Value} {st : List Value} (k : VV E nL A Q J pc [a0, a1, a2, a3, none] st) : VV E nL A Q J pc [a0, a1, a2, a3, a4] st := x_lvf (lv' := [a0, a1, a2, a3, none]) ⟨Or.inr rfl, Or.inr rfl, Or.inr rfl, Or.inr rfl, Or.inl rfl, trivial⟩ k
set_option maxHeartbeats 4000000 in
set_option maxRecDepth 10000 in
theorem c_X9_fitsNow (l : Launch) (G : GM) (τ : St) (D : Int) (hW : WOk D (wv τ)) (hD : D ≤ 900000) (hF : FOk (τ 0 0 0 1) (τ 1 0 0)) (hs1 : 0 ≤ τ 0 0 0 13 ∧ τ 0 0 0 13 < 4) (hs2 : 0 ≤ τ 0 0 0 14 ∧ τ 0 0 0 14 ≤ 1000000) (hs3 : 0 ≤ τ 0 0 0 15 ∧ τ 0 0 0 15 ≤ 8) (hs4 : ∀ j, 0 ≤ j → j < 8 → 0 ≤ τ 9 0 0 j ∧ τ 9 0 0 j ≤ 1) (wh : Int) (w0 : 0 ≤ wh) (w1 : wh ≤ 1) : Ct l (YM G) yX9_fitsNow (.code yX9_fitsNow cX9_fitsNow 5 (some .int)) 3 [.ref (aM G 0), .int (iN wh)] τ (fun v τ' => v = some (.int (iN (fitW (fv τ) (τ 2 0 0 (τ 4 0 0 (τ 0 0 0 13))) (τ 5 0 0 (τ 0 0 0 13)) (τ 0 0 0 14) (τ 9 0 0) (τ 0 0 0 15).toNat wh))) ∧ τ' = τ) := by
  refine Ct_of (own := RX9) [some (.ref (aM G 0)), some (.int (iN wh)), none, none, none] rfl rfl (Nat.le_of_ble_eq_true rfl) rfl ?_
  intro E hE hM hl hR
  obtain ⟨hnp, hnf, hday, hpp, hff, hcc⟩ := WT_of hW
  have q1 := hpp (τ 0 0 0 13) (by omega) (by omega)
  have hN : (if wh = 0 then (10 : Int) else 5) ≤ 10 ∧ 5 ≤ (if wh = 0 then (10 : Int) else 5) := by split <;> omega
  have loop : ∀ (n : Nat) (k : Int), 0 ≤ k → k ≤ (if wh = 0 then (10 : Int) else 5) → 10 - k = n → VV E 5 (AS (YM G)) (Qm (YM G) (fun v τ' => v = some (.int (iN (fitW (fv τ) (τ 2 0 0 (τ 4 0 0 (τ 0 0 0 13))) (τ 5 0 0 (τ 0 0 0 13)) (τ 0 0 0 14) (τ 9 0 0) (τ 0 0 0 15).toNat wh))) ∧ τ' = τ) E) (Rh (YM G) (τ)) 4 [some (.ref (aM G 0)), some (.int (iN wh)), some (.int (fitR (fun k => if wh = 0 then snB (fv τ) (τ 2 0 0 (τ 4 0 0 (τ 0 0 0 13))) 3 k (τ 0 0 0 14) (τ 9 0 0) (τ 0 0 0 15).toNat else snB (fv τ) (τ 2 0 0 (τ 4 0 0 (τ 0 0 0 13))) k (τ 5 0 0 (τ 0 0 0 13)) (τ 0 0 0 14) (τ 9 0 0) (τ 0 0 0 15).toNat) (k).toNat)), some (.int (iN (k))), none] [] := by
    intro n
    induction n using Nat.strongRecOn with
    | _ n ih =>
    intro k g0 g1 g2
    refine x_iload_n (pc' := 5) hE dX9_fitsNow_4 rfl rfl ?_
    refine x_iload_n (pc' := 6) hE dX9_fitsNow_5 rfl rfl ?_
    refine x_ifne (tgt := 14) (pc' := 9) hE dX9_fitsNow_6 (by decide) rfl ⟨by omega, by omega⟩ (fun h1 => ?_) (fun h1 => ?_)
    · refine x_iconst (pc' := 15) hE dX9_fitsNow_14 rfl ?_
      have hN2 : (if wh = 0 then (10 : Int) else 5) = 5 := by simp [h1]
      refine x_icmpge (tgt := 68) (pc' := 18) hE dX9_fitsNow_15 (by decide) rfl ⟨by omega, by omega⟩ ⟨by omega, by omega⟩ (fun h2 => ?_) (fun h2 => ?_)
      · refine x_iload_n (pc' := 69) hE dX9_fitsNow_68 rfl rfl ?_
        refine x_iret hE dX9_fitsNow_69 ?_
        have e : k = (if wh = 0 then (10 : Int) else 5) := by omega
        refine ⟨?_, rfl⟩
        unfold fitW
        rw [fitN_i, e, show (if wh = 0 then (10 : Int) else 5).toNat = (if wh = 0 then 10 else 5) by split <;> rfl]
      · refine x_iload_n (pc' := 19) hE dX9_fitsNow_18 rfl rfl ?_
        refine x_ifne (tgt := 31) (pc' := 22) hE dX9_fitsNow_19 (by decide) rfl ⟨by omega, by omega⟩ (fun h3 => ?_) (fun h3 => ?_)
        · refine x_aload_n (pc' := 32) hE dX9_fitsNow_31 rfl rfl ?_
          refine x_iload_n (pc' := 33) hE dX9_fitsNow_32 rfl rfl ?_
          refine x_aload_n (pc' := 34) hE dX9_fitsNow_33 rfl rfl ?_
          refine gM_8 (pc' := 37) hE hM tF_X9_22 dX9_fitsNow_34 rfl ?_
          refine x_aload_n (pc' := 38) hE dX9_fitsNow_37 rfl rfl ?_
          refine gM_13 (pc' := 41) hE hM tF_X9_34 dX9_fitsNow_38 rfl ?_
          refine aM_5 (pc' := 42) hE hM (by omega) (by omega) dX9_fitsNow_41 rfl ?_
          refine x_cV1 (pc' := 45) hE hM (okM G) hl hR (c_X9_isSeenSo l G _ _ (by assumption) (by omega) (by assumption) hs1 hs2 hs3 hs4 _ _ (by omega) (by omega) (by omega) (by omega)) kX9_isSeenSo tM_X9_226 (rcvM hM) (by decide) dX9_fitsNow_42 rfl rfl (Nat.le_of_ble_eq_true rfl) (fun σ4 e4 => ?_)
          replace e4 := e4.symm
          subst e4
          refine x_istore (pc' := 47) hE dX9_fitsNow_45 rfl (by decide) rfl rfl ?_
          dsimp only [List.set]
          refine x_iload_n (pc' := 48) hE dX9_fitsNow_47 rfl rfl ?_
          refine x_iload (pc' := 50) hE dX9_fitsNow_48 rfl rfl ?_
          refine x_ifeqB (tgt := 59) (pc' := 53) hE dX9_fitsNow_50 (by decide) rfl (fun h5 => ?_) (fun h5 => ?_)
          · try simp only [decide_eq_true_eq, decide_eq_false_iff_not] at h5
            refine x_iconst (pc' := 60) hE dX9_fitsNow_59 rfl ?_
            refine x_ior (pc' := 61) hE dX9_fitsNow_60 rfl ?_
            refine x_istore_n (pc' := 62) hE dX9_fitsNow_61 rfl (by decide) rfl rfl ?_
            dsimp only [List.set]
            refine x_iinc (pc' := 65) hE dX9_fitsNow_62 rfl rfl (by decide) rfl rfl ?_
            dsimp only [List.set]
            refine x_goto (tgt := 4) hE dX9_fitsNow_65 (by decide) ?_
            refine x_fg4 ?_
            refine x_lve (lv' := [some (.ref (aM G 0)), some (.int (iN wh)), some (.int (fitR (fun k => if wh = 0 then snB (fv τ) (τ 2 0 0 (τ 4 0 0 (τ 0 0 0 13))) 3 k (τ 0 0 0 14) (τ 9 0 0) (τ 0 0 0 15).toNat else snB (fv τ) (τ 2 0 0 (τ 4 0 0 (τ 0 0 0 13))) k (τ 5 0 0 (τ 0 0 0 13)) (τ 0 0 0 14) (τ 9 0 0) (τ 0 0 0 15).toNat) (k + 1).toNat)), some (.int (iN (k + 1))), none]) ?_ (ih (n - 1) (by omega) (k + 1) (by omega) (by omega) (by omega))
            rw [fitR_s _ g0]
            first | (exfalso; omega) | simp [h1, h2, h3, h5, or_0]
          · try simp only [decide_eq_true_eq, decide_eq_false_iff_not] at h5
            refine x_iconst (pc' := 54) hE dX9_fitsNow_53 rfl ?_
            refine x_iload_n (pc' := 55) hE dX9_fitsNow_54 rfl rfl ?_
            refine x_ishl (pc' := 56) hE dX9_fitsNow_55 rfl ?_
            refine x_goto (tgt := 60) hE dX9_fitsNow_56 (by decide) ?_
            refine x_ior (pc' := 61) hE dX9_fitsNow_60 rfl ?_
            refine x_istore_n (pc' := 62) hE dX9_fitsNow_61 rfl (by decide) rfl rfl ?_
            dsimp only [List.set]
            refine x_iinc (pc' := 65) hE dX9_fitsNow_62 rfl rfl (by decide) rfl rfl ?_
            dsimp only [List.set]
            refine x_goto (tgt := 4) hE dX9_fitsNow_65 (by decide) ?_
            refine x_fg4 ?_
            refine x_lve (lv' := [some (.ref (aM G 0)), some (.int (iN wh)), some (.int (fitR (fun k => if wh = 0 then snB (fv τ) (τ 2 0 0 (τ 4 0 0 (τ 0 0 0 13))) 3 k (τ 0 0 0 14) (τ 9 0 0) (τ 0 0 0 15).toNat else snB (fv τ) (τ 2 0 0 (τ 4 0 0 (τ 0 0 0 13))) k (τ 5 0 0 (τ 0 0 0 13)) (τ 0 0 0 14) (τ 9 0 0) (τ 0 0 0 15).toNat) (k + 1).toNat)), some (.int (iN (k + 1))), none]) ?_ (ih (n - 1) (by omega) (k + 1) (by omega) (by omega) (by omega))
            rw [fitR_s _ g0]
            first | (exfalso; omega) | simp [h1, h2, h3, h5, or_0]
        · refine x_aload_n (pc' := 23) hE dX9_fitsNow_22 rfl rfl ?_
          refine x_iconst (pc' := 24) hE dX9_fitsNow_23 rfl ?_
          refine x_iload_n (pc' := 25) hE dX9_fitsNow_24 rfl rfl ?_
          refine x_cV1 (pc' := 28) hE hM (okM G) hl hR (c_X9_isSeenSo l G _ _ (by assumption) (by omega) (by assumption) hs1 hs2 hs3 hs4 _ _ (by omega) (by omega) (by omega) (by omega)) kX9_isSeenSo tM_X9_226 (rcvM hM) (by decide) dX9_fitsNow_25 rfl rfl (Nat.le_of_ble_eq_true rfl) (fun σ6 e6 => ?_)
          replace e6 := e6.symm
          subst e6
          refine x_goto (tgt := 45) hE dX9_fitsNow_28 (by decide) ?_
          refine x_istore (pc' := 47) hE dX9_fitsNow_45 rfl (by decide) rfl rfl ?_
          dsimp only [List.set]
          refine x_iload_n (pc' := 48) hE dX9_fitsNow_47 rfl rfl ?_
          refine x_iload (pc' := 50) hE dX9_fitsNow_48 rfl rfl ?_
          refine x_ifeqB (tgt := 59) (pc' := 53) hE dX9_fitsNow_50 (by decide) rfl (fun h7 => ?_) (fun h7 => ?_)
          · try simp only [decide_eq_true_eq, decide_eq_false_iff_not] at h7
            refine x_iconst (pc' := 60) hE dX9_fitsNow_59 rfl ?_
            refine x_ior (pc' := 61) hE dX9_fitsNow_60 rfl ?_
            refine x_istore_n (pc' := 62) hE dX9_fitsNow_61 rfl (by decide) rfl rfl ?_
            dsimp only [List.set]
            refine x_iinc (pc' := 65) hE dX9_fitsNow_62 rfl rfl (by decide) rfl rfl ?_
            dsimp only [List.set]
            refine x_goto (tgt := 4) hE dX9_fitsNow_65 (by decide) ?_
            refine x_fg4 ?_
            refine x_lve (lv' := [some (.ref (aM G 0)), some (.int (iN wh)), some (.int (fitR (fun k => if wh = 0 then snB (fv τ) (τ 2 0 0 (τ 4 0 0 (τ 0 0 0 13))) 3 k (τ 0 0 0 14) (τ 9 0 0) (τ 0 0 0 15).toNat else snB (fv τ) (τ 2 0 0 (τ 4 0 0 (τ 0 0 0 13))) k (τ 5 0 0 (τ 0 0 0 13)) (τ 0 0 0 14) (τ 9 0 0) (τ 0 0 0 15).toNat) (k + 1).toNat)), some (.int (iN (k + 1))), none]) ?_ (ih (n - 1) (by omega) (k + 1) (by omega) (by omega) (by omega))
            rw [fitR_s _ g0]
            first | (exfalso; omega) | simp [h1, h2, h3, h7, or_0]
          · try simp only [decide_eq_true_eq, decide_eq_false_iff_not] at h7
            refine x_iconst (pc' := 54) hE dX9_fitsNow_53 rfl ?_
            refine x_iload_n (pc' := 55) hE dX9_fitsNow_54 rfl rfl ?_
            refine x_ishl (pc' := 56) hE dX9_fitsNow_55 rfl ?_
            refine x_goto (tgt := 60) hE dX9_fitsNow_56 (by decide) ?_
            refine x_ior (pc' := 61) hE dX9_fitsNow_60 rfl ?_
            refine x_istore_n (pc' := 62) hE dX9_fitsNow_61 rfl (by decide) rfl rfl ?_
            dsimp only [List.set]
            refine x_iinc (pc' := 65) hE dX9_fitsNow_62 rfl rfl (by decide) rfl rfl ?_
            dsimp only [List.set]
            refine x_goto (tgt := 4) hE dX9_fitsNow_65 (by decide) ?_
            refine x_fg4 ?_
            refine x_lve (lv' := [some (.ref (aM G 0)), some (.int (iN wh)), some (.int (fitR (fun k => if wh = 0 then snB (fv τ) (τ 2 0 0 (τ 4 0 0 (τ 0 0 0 13))) 3 k (τ 0 0 0 14) (τ 9 0 0) (τ 0 0 0 15).toNat else snB (fv τ) (τ 2 0 0 (τ 4 0 0 (τ 0 0 0 13))) k (τ 5 0 0 (τ 0 0 0 13)) (τ 0 0 0 14) (τ 9 0 0) (τ 0 0 0 15).toNat) (k + 1).toNat)), some (.int (iN (k + 1))), none]) ?_ (ih (n - 1) (by omega) (k + 1) (by omega) (by omega) (by omega))
            rw [fitR_s _ g0]
            first | (exfalso; omega) | simp [h1, h2, h3, h7, or_0]
    · refine x_bipush (pc' := 11) hE dX9_fitsNow_9 rfl (by decide +kernel) ?_
      refine x_goto (tgt := 15) hE dX9_fitsNow_11 (by decide) ?_
      have hN2 : (if wh = 0 then (10 : Int) else 5) = 10 := by simp [h1]
      refine x_icmpge (tgt := 68) (pc' := 18) hE dX9_fitsNow_15 (by decide) rfl ⟨by omega, by omega⟩ ⟨by omega, by omega⟩ (fun h8 => ?_) (fun h8 => ?_)
      · refine x_iload_n (pc' := 69) hE dX9_fitsNow_68 rfl rfl ?_
        refine x_iret hE dX9_fitsNow_69 ?_
        have e : k = (if wh = 0 then (10 : Int) else 5) := by omega
        refine ⟨?_, rfl⟩
        unfold fitW
        rw [fitN_i, e, show (if wh = 0 then (10 : Int) else 5).toNat = (if wh = 0 then 10 else 5) by split <;> rfl]
      · refine x_iload_n (pc' := 19) hE dX9_fitsNow_18 rfl rfl ?_
        refine x_ifne (tgt := 31) (pc' := 22) hE dX9_fitsNow_19 (by decide) rfl ⟨by omega, by omega⟩ (fun h9 => ?_) (fun h9 => ?_)
        · refine x_aload_n (pc' := 32) hE dX9_fitsNow_31 rfl rfl ?_
          refine x_iload_n (pc' := 33) hE dX9_fitsNow_32 rfl rfl ?_
          refine x_aload_n (pc' := 34) hE dX9_fitsNow_33 rfl rfl ?_
          refine gM_8 (pc' := 37) hE hM tF_X9_22 dX9_fitsNow_34 rfl ?_
          refine x_aload_n (pc' := 38) hE dX9_fitsNow_37 rfl rfl ?_
          refine gM_13 (pc' := 41) hE hM tF_X9_34 dX9_fitsNow_38 rfl ?_
          refine aM_5 (pc' := 42) hE hM (by omega) (by omega) dX9_fitsNow_41 rfl ?_
          refine x_cV1 (pc' := 45) hE hM (okM G) hl hR (c_X9_isSeenSo l G _ _ (by assumption) (by omega) (by assumption) hs1 hs2 hs3 hs4 _ _ (by omega) (by omega) (by omega) (by omega)) kX9_isSeenSo tM_X9_226 (rcvM hM) (by decide) dX9_fitsNow_42 rfl rfl (Nat.le_of_ble_eq_true rfl) (fun σ10 e10 => ?_)
          replace e10 := e10.symm
          subst e10
          refine x_istore (pc' := 47) hE dX9_fitsNow_45 rfl (by decide) rfl rfl ?_
          dsimp only [List.set]
          refine x_iload_n (pc' := 48) hE dX9_fitsNow_47 rfl rfl ?_
          refine x_iload (pc' := 50) hE dX9_fitsNow_48 rfl rfl ?_
          refine x_ifeqB (tgt := 59) (pc' := 53) hE dX9_fitsNow_50 (by decide) rfl (fun h11 => ?_) (fun h11 => ?_)
          · try simp only [decide_eq_true_eq, decide_eq_false_iff_not] at h11
            refine x_iconst (pc' := 60) hE dX9_fitsNow_59 rfl ?_
            refine x_ior (pc' := 61) hE dX9_fitsNow_60 rfl ?_
            refine x_istore_n (pc' := 62) hE dX9_fitsNow_61 rfl (by decide) rfl rfl ?_
            dsimp only [List.set]
            refine x_iinc (pc' := 65) hE dX9_fitsNow_62 rfl rfl (by decide) rfl rfl ?_
            dsimp only [List.set]
            refine x_goto (tgt := 4) hE dX9_fitsNow_65 (by decide) ?_
            refine x_fg4 ?_
            refine x_lve (lv' := [some (.ref (aM G 0)), some (.int (iN wh)), some (.int (fitR (fun k => if wh = 0 then snB (fv τ) (τ 2 0 0 (τ 4 0 0 (τ 0 0 0 13))) 3 k (τ 0 0 0 14) (τ 9 0 0) (τ 0 0 0 15).toNat else snB (fv τ) (τ 2 0 0 (τ 4 0 0 (τ 0 0 0 13))) k (τ 5 0 0 (τ 0 0 0 13)) (τ 0 0 0 14) (τ 9 0 0) (τ 0 0 0 15).toNat) (k + 1).toNat)), some (.int (iN (k + 1))), none]) ?_ (ih (n - 1) (by omega) (k + 1) (by omega) (by omega) (by omega))
            rw [fitR_s _ g0]
            first | (exfalso; omega) | simp [h1, h8, h9, h11, or_0]
          · try simp only [decide_eq_true_eq, decide_eq_false_iff_not] at h11
            refine x_iconst (pc' := 54) hE dX9_fitsNow_53 rfl ?_
            refine x_iload_n (pc' := 55) hE dX9_fitsNow_54 rfl rfl ?_
            refine x_ishl (pc' := 56) hE dX9_fitsNow_55 rfl ?_
            refine x_goto (tgt := 60) hE dX9_fitsNow_56 (by decide) ?_
            refine x_ior (pc' := 61) hE dX9_fitsNow_60 rfl ?_
            refine x_istore_n (pc' := 62) hE dX9_fitsNow_61 rfl (by decide) rfl rfl ?_
            dsimp only [List.set]
            refine x_iinc (pc' := 65) hE dX9_fitsNow_62 rfl rfl (by decide) rfl rfl ?_
            dsimp only [List.set]
            refine x_goto (tgt := 4) hE dX9_fitsNow_65 (by decide) ?_
            refine x_fg4 ?_
            refine x_lve (lv' := [some (.ref (aM G 0)), some (.int (iN wh)), some (.int (fitR (fun k => if wh = 0 then snB (fv τ) (τ 2 0 0 (τ 4 0 0 (τ 0 0 0 13))) 3 k (τ 0 0 0 14) (τ 9 0 0) (τ 0 0 0 15).toNat else snB (fv τ) (τ 2 0 0 (τ 4 0 0 (τ 0 0 0 13))) k (τ 5 0 0 (τ 0 0 0 13)) (τ 0 0 0 14) (τ 9 0 0) (τ 0 0 0 15).toNat) (k + 1).toNat)), some (.int (iN (k + 1))), none]) ?_ (ih (n - 1) (by omega) (k + 1) (by omega) (by omega) (by omega))
            rw [fitR_s _ g0]
            first | (exfalso; omega) | simp [h1, h8, h9, h11, or_0]
        · refine x_aload_n (pc' := 23) hE dX9_fitsNow_22 rfl rfl ?_
          refine x_iconst (pc' := 24) hE dX9_fitsNow_23 rfl ?_
          refine x_iload_n (pc' := 25) hE dX9_fitsNow_24 rfl rfl ?_
          refine x_cV1 (pc' := 28) hE hM (okM G) hl hR (c_X9_isSeenSo l G _ _ (by assumption) (by omega) (by assumption) hs1 hs2 hs3 hs4 _ _ (by omega) (by omega) (by omega) (by omega)) kX9_isSeenSo tM_X9_226 (rcvM hM) (by decide) dX9_fitsNow_25 rfl rfl (Nat.le_of_ble_eq_true rfl) (fun σ12 e12 => ?_)
          replace e12 := e12.symm
          subst e12
          refine x_goto (tgt := 45) hE dX9_fitsNow_28 (by decide) ?_
          refine x_istore (pc' := 47) hE dX9_fitsNow_45 rfl (by decide) rfl rfl ?_
          dsimp only [List.set]
          refine x_iload_n (pc' := 48) hE dX9_fitsNow_47 rfl rfl ?_
          refine x_iload (pc' := 50) hE dX9_fitsNow_48 rfl rfl ?_
          refine x_ifeqB (tgt := 59) (pc' := 53) hE dX9_fitsNow_50 (by decide) rfl (fun h13 => ?_) (fun h13 => ?_)
          · try simp only [decide_eq_true_eq, decide_eq_false_iff_not] at h13
            refine x_iconst (pc' := 60) hE dX9_fitsNow_59 rfl ?_
            refine x_ior (pc' := 61) hE dX9_fitsNow_60 rfl ?_
            refine x_istore_n (pc' := 62) hE dX9_fitsNow_61 rfl (by decide) rfl rfl ?_
            dsimp only [List.set]
            refine x_iinc (pc' := 65) hE dX9_fitsNow_62 rfl rfl (by decide) rfl rfl ?_
            dsimp only [List.set]
            refine x_goto (tgt := 4) hE dX9_fitsNow_65 (by decide) ?_
            refine x_fg4 ?_
            refine x_lve (lv' := [some (.ref (aM G 0)), some (.int (iN wh)), some (.int (fitR (fun k => if wh = 0 then snB (fv τ) (τ 2 0 0 (τ 4 0 0 (τ 0 0 0 13))) 3 k (τ 0 0 0 14) (τ 9 0 0) (τ 0 0 0 15).toNat else snB (fv τ) (τ 2 0 0 (τ 4 0 0 (τ 0 0 0 13))) k (τ 5 0 0 (τ 0 0 0 13)) (τ 0 0 0 14) (τ 9 0 0) (τ 0 0 0 15).toNat) (k + 1).toNat)), some (.int (iN (k + 1))), none]) ?_ (ih (n - 1) (by omega) (k + 1) (by omega) (by omega) (by omega))
            rw [fitR_s _ g0]
            first | (exfalso; omega) | simp [h1, h8, h9, h13, or_0]
          · try simp only [decide_eq_true_eq, decide_eq_false_iff_not] at h13
            refine x_iconst (pc' := 54) hE dX9_fitsNow_53 rfl ?_
            refine x_iload_n (pc' := 55) hE dX9_fitsNow_54 rfl rfl ?_
            refine x_ishl (pc' := 56) hE dX9_fitsNow_55 rfl ?_
            refine x_goto (tgt := 60) hE dX9_fitsNow_56 (by decide) ?_
            refine x_ior (pc' := 61) hE dX9_fitsNow_60 rfl ?_
            refine x_istore_n (pc' := 62) hE dX9_fitsNow_61 rfl (by decide) rfl rfl ?_
            dsimp only [List.set]
            refine x_iinc (pc' := 65) hE dX9_fitsNow_62 rfl rfl (by decide) rfl rfl ?_
            dsimp only [List.set]
            refine x_goto (tgt := 4) hE dX9_fitsNow_65 (by decide) ?_
            refine x_fg4 ?_
            refine x_lve (lv' := [some (.ref (aM G 0)), some (.int (iN wh)), some (.int (fitR (fun k => if wh = 0 then snB (fv τ) (τ 2 0 0 (τ 4 0 0 (τ 0 0 0 13))) 3 k (τ 0 0 0 14) (τ 9 0 0) (τ 0 0 0 15).toNat else snB (fv τ) (τ 2 0 0 (τ 4 0 0 (τ 0 0 0 13))) k (τ 5 0 0 (τ 0 0 0 13)) (τ 0 0 0 14) (τ 9 0 0) (τ 0 0 0 15).toNat) (k + 1).toNat)), some (.int (iN (k + 1))), none]) ?_ (ih (n - 1) (by omega) (k + 1) (by omega) (by omega) (by omega))
            rw [fitR_s _ g0]
            first | (exfalso; omega) | simp [h1, h8, h9, h13, or_0]
  refine x_iconst (pc' := 1) hE dX9_fitsNow_0 rfl ?_
  refine x_istore_n (pc' := 2) hE dX9_fitsNow_1 rfl (by decide) rfl rfl ?_
  dsimp only [List.set]
  refine x_iconst (pc' := 3) hE dX9_fitsNow_2 rfl ?_
  refine x_istore_n (pc' := 4) hE dX9_fitsNow_3 rfl (by decide) rfl rfl ?_
  dsimp only [List.set]
  exact loop 10 0 (by omega) (by omega) (by omega)
