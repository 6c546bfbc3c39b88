theorem imA_0 (σ : St) : imA σ 0 = σ := by
  funext a b c d
  unfold imA
  rw [if_neg (by omega)]
theorem imA_s (σ : St) {k : Int} (h0 : 0 ≤ k) : up (up (imA σ k) 17 0 0 k ((imA σ k) 2 0 0 k)) 16 0 0 k ((up (imA σ k) 17 0 0 k ((imA σ k) 2 0 0 k)) 9 0 0 k) = imA σ (k + 1) := by
  have hk : k < k + 1 := by omega
  have x0 : (imA σ k) 2 0 0 k = σ 2 0 0 k := by simp [imA, up]
  have x1 : (up (imA σ k) 17 0 0 k ((imA σ k) 2 0 0 k)) 9 0 0 k = σ 9 0 0 k := by simp [imA, up]
  rw [x1, x0]
  funext a b c d
  by_cases h : b = 0 ∧ c = 0
  · obtain ⟨rfl, rfl⟩ := h
    by_cases hd : d = k
    · subst hd
      by_cases a0 : a = 17
      · subst a0; simp [up, imA, h0, hk]
      · skip
        by_cases a1 : a = 16
        · subst a1; simp [up, imA, h0, hk]
        · simp [up, imA, a0, a1]
    · rw [up_n (fun q => hd q.2.2.2), up_n (fun q => hd q.2.2.2)]
      have h1 : (0 ≤ d ∧ d < k + 1) ↔ (0 ≤ d ∧ d < k) := by omega
      simp [imA, h1]
  · rw [up_n (fun q => h ⟨q.2.1, q.2.2.1⟩), up_n (fun q => h ⟨q.2.1, q.2.2.1⟩)]
    unfold imA
    rw [if_neg (fun q => h ⟨q.1, q.2.1⟩), if_neg (fun q => h ⟨q.1, q.2.1⟩)]
theorem imB_0 (σ : St) : imB σ 0 = σ := by
  funext a b c d
  unfold imB
  rw [if_neg (by omega)]
theorem imB_s (σ : St) {k : Int} (h0 : 0 ≤ k) : up (up (up (imB σ k) 18 0 0 k ((imB σ k) 6 0 0 k)) 19 0 0 k ((up (imB σ k) 18 0 0 k ((imB σ k) 6 0 0 k)) 7 0 0 k)) 20 0 0 k ((up (up (imB σ k) 18 0 0 k ((imB σ k) 6 0 0 k)) 19 0 0 k ((up (imB σ k) 18 0 0 k ((imB σ k) 6 0 0 k)) 7 0 0 k)) 8 0 0 k) = imB σ (k + 1) := by
  have hk : k < k + 1 := by omega
  have x0 : (imB σ k) 6 0 0 k = σ 6 0 0 k := by simp [imB, up]
  have x1 : (up (imB σ k) 18 0 0 k ((imB σ k) 6 0 0 k)) 7 0 0 k = σ 7 0 0 k := by simp [imB, up]
  have x2 : (up (up (imB σ k) 18 0 0 k ((imB σ k) 6 0 0 k)) 19 0 0 k ((up (imB σ k) 18 0 0 k ((imB σ k) 6 0 0 k)) 7 0 0 k)) 8 0 0 k = σ 8 0 0 k := by simp [imB, up]
  rw [x2, x1, x0]
  funext a b c d
  by_cases h : b = 0 ∧ c = 0
  · obtain ⟨rfl, rfl⟩ := h
    by_cases hd : d = k
    · subst hd
      by_cases a0 : a = 18
      · subst a0; simp [up, imB, h0, hk]
      · skip
        by_cases a1 : a = 19
        · subst a1; simp [up, imB, h0, hk]
        · skip
          by_cases a2 : a = 20
          · subst a2; simp [up, imB, h0, hk]
          · simp [up, imB, a0, a1, a2]
    · rw [up_n (fun q => hd q.2.2.2), up_n (fun q => hd q.2.2.2), up_n (fun q => hd q.2.2.2)]
      have h1 : (0 ≤ d ∧ d < k + 1) ↔ (0 ≤ d ∧ d < k) := by omega
      simp [imB, h1]
  · rw [up_n (fun q => h ⟨q.2.1, q.2.2.1⟩), up_n (fun q => h ⟨q.2.1, q.2.2.1⟩), up_n (fun q => h ⟨q.2.1, q.2.2.1⟩)]
    unfold imB
    rw [if_neg (fun q => h ⟨q.1, q.2.1⟩), if_neg (fun q => h ⟨q.1, q.2.1⟩)]
theorem reA_0 (σ : St) : reA σ 0 = σ := by
  funext a b c d
  unfold reA
  rw [if_neg (by omega)]
theorem reA_s (σ : St) {k : Int} (h0 : 0 ≤ k) : up (up (reA σ k) 2 0 0 k ((reA σ k) 17 0 0 k)) 9 0 0 k ((up (reA σ k) 2 0 0 k ((reA σ k) 17 0 0 k)) 16 0 0 k) = reA σ (k + 1) := by
  have hk : k < k + 1 := by omega
  have x0 : (reA σ k) 17 0 0 k = σ 17 0 0 k := by simp [reA, up]
  have x1 : (up (reA σ k) 2 0 0 k ((reA σ k) 17 0 0 k)) 16 0 0 k = σ 16 0 0 k := by simp [reA, up]
  rw [x1, x0]
  funext a b c d
  by_cases h : b = 0 ∧ c = 0
  · obtain ⟨rfl, rfl⟩ := h
    by_cases hd : d = k
    · subst hd
      by_cases a0 : a = 2
      · subst a0; simp [up, reA, h0, hk]
      · skip
        by_cases a1 : a = 9
        · subst a1; simp [up, reA, h0, hk]
        · simp [up, reA, a0, a1]
    · rw [up_n (fun q => hd q.2.2.2), up_n (fun q => hd q.2.2.2)]
      have h1 : (0 ≤ d ∧ d < k + 1) ↔ (0 ≤ d ∧ d < k) := by omega
      simp [reA, h1]
  · rw [up_n (fun q => h ⟨q.2.1, q.2.2.1⟩), up_n (fun q => h ⟨q.2.1, q.2.2.1⟩)]
    unfold reA
    rw [if_neg (fun q => h ⟨q.1, q.2.1⟩), if_neg (fun q => h ⟨q.1, q.2.1⟩)]
theorem reB_0 (σ : St) : reB σ 0 = σ := by
  funext a b c d
  unfold reB
  rw [if_neg (by omega)]
theorem reB_s (σ : St) {k : Int} (h0 : 0 ≤ k) : up (up (up (reB σ k) 6 0 0 k ((reB σ k) 18 0 0 k)) 7 0 0 k ((up (reB σ k) 6 0 0 k ((reB σ k) 18 0 0 k)) 19 0 0 k)) 8 0 0 k ((up (up (reB σ k) 6 0 0 k ((reB σ k) 18 0 0 k)) 7 0 0 k ((up (reB σ k) 6 0 0 k ((reB σ k) 18 0 0 k)) 19 0 0 k)) 20 0 0 k) = reB σ (k + 1) := by
  have hk : k < k + 1 := by omega
  have x0 : (reB σ k) 18 0 0 k = σ 18 0 0 k := by simp [reB, up]
  have x1 : (up (reB σ k) 6 0 0 k ((reB σ k) 18 0 0 k)) 19 0 0 k = σ 19 0 0 k := by simp [reB, up]
  have x2 : (up (up (reB σ k) 6 0 0 k ((reB σ k) 18 0 0 k)) 7 0 0 k ((up (reB σ k) 6 0 0 k ((reB σ k) 18 0 0 k)) 19 0 0 k)) 20 0 0 k = σ 20 0 0 k := by simp [reB, up]
  rw [x2, x1, x0]
  funext a b c d
  by_cases h : b = 0 ∧ c = 0
  · obtain ⟨rfl, rfl⟩ := h
    by_cases hd : d = k
    · subst hd
      by_cases a0 : a = 6
      · subst a0; simp [up, reB, h0, hk]
      · skip
        by_cases a1 : a = 7
        · subst a1; simp [up, reB, h0, hk]
        · skip
          by_cases a2 : a = 8
          · subst a2; simp [up, reB, h0, hk]
          · simp [up, reB, a0, a1, a2]
    · rw [up_n (fun q => hd q.2.2.2), up_n (fun q => hd q.2.2.2), up_n (fun q => hd q.2.2.2)]
      have h1 : (0 ≤ d ∧ d < k + 1) ↔ (0 ≤ d ∧ d < k) := by omega
      simp [reB, h1]
  · rw [up_n (fun q => h ⟨q.2.1, q.2.2.1⟩), up_n (fun q => h ⟨q.2.1, q.2.2.1⟩), up_n (fun q => h ⟨q.2.1, q.2.2.1⟩)]
    unfold reB
    rw [if_neg (fun q => h ⟨q.1, q.2.1⟩), if_neg (fun q => h ⟨q.1, q.2.1⟩)]
theorem wv_up0 (τ : St) {j v : Int} (h : j ≠ 3 ∧ j ≠ 5 ∧ j ≠ 9) : wv (up τ 0 0 0 j v) = wv τ := by
  funext r i
  unfold wv
  split
  · rw [up_n (by omega), up_n (by omega), up_n (by omega)]
  · split
    · exact up_n (by omega)
    · split
      · exact up_n (by omega)
      · rfl
theorem fv_up0 (τ : St) {j v : Int} (h : j ≠ 1) : fv (up τ 0 0 0 j v) = fv τ := by
  unfold fv
  rw [up_n (by omega), show up τ 0 0 0 j v 1 0 0 = τ 1 0 0 from funext fun d => up_n (by omega)]
theorem fok_up0 {τ : St} {j v : Int} (h : j ≠ 1) (hF : FOk (τ 0 0 0 1) (τ 1 0 0)) : FOk (up τ 0 0 0 j v 0 0 0 1) (up τ 0 0 0 j v 1 0 0) := by
  rw [up_n (by omega), show up τ 0 0 0 j v 1 0 0 = τ 1 0 0 from funext fun d => up_n (by omega)]
  exact hF
set_option maxHeartbeats 4000000 in
set_option maxRecDepth 10000 in
theorem c_X9_graze (l : Launch) (G : GM) (τ : St) (B : Int) (hI : IM B τ) (hB : B ≤ 800000) (f : Int) (hf : inR f) (d : Int) (hd : inR d) (w : Int) (hw : inR w) : Ct l (YM G) yX9_graze (.code yX9_graze cX9_graze 4 (some .int)) 7 [.ref (aM G 0), .int (iN f), .int (iN d), .int (iN w)] τ (fun v τ' => v = some (.int (iN (aGraze τ f d w))) ∧ Sd (sGraze τ f d w) τ') := by
  refine Ct_of (own := RX9) [some (.ref (aM G 0)), some (.int (iN f)), some (.int (iN d)), some (.int (iN w))] rfl rfl (Nat.le_of_ble_eq_true rfl) rfl ?_
  intro E hE hM hl hR
  obtain ⟨hW, hF, hrd, hak, hpl, hpg, hwt, hfr, hsn, hso, hce, hkp, hkk⟩ := hI
  obtain ⟨hnp, hnf, hday, hpp, hff, hcc⟩ := WT_of hW
  obtain ⟨f1, f2⟩ := hf
  obtain ⟨d1, d2⟩ := hd
  obtain ⟨w1, w2⟩ := hw
  refine x_aload_n (pc' := 1) hE dX9_graze_0 rfl rfl ?_
  refine x_iload_n (pc' := 2) hE dX9_graze_1 rfl rfl ?_
  refine x_cV1 (pc' := 5) hE hM (okM G) hl hR (c_X9_isFlock l G _ _ (by assumption) _ ⟨by omega, by omega⟩) kX9_isFlock tM_X9_170 (rcvM hM) (by decide) dX9_graze_2 rfl rfl (Nat.le_of_ble_eq_true rfl) (fun σ1 e1 => ?_)
  replace e1 := e1.symm
  subst e1
  refine x_ifneB (tgt := 11) (pc' := 8) hE dX9_graze_5 (by decide) rfl (fun h2 => ?_) (fun h2 => ?_)
  · try simp only [decide_eq_true_eq, decide_eq_false_iff_not] at h2
    refine x_iload_n (pc' := 12) hE dX9_graze_11 rfl rfl ?_
    refine x_iconst (pc' := 13) hE dX9_graze_12 rfl ?_
    refine x_bipush (pc' := 15) hE dX9_graze_13 rfl (by decide +kernel) ?_
    refine x_cS1 (pc' := 18) hE hM (okM G) hl hR (c_X9_within l G _ _ _ _ ⟨by omega, by omega⟩ ⟨by omega, by omega⟩ ⟨by omega, by omega⟩) kX9_within tM_X9_75 (by decide) dX9_graze_15 rfl rfl (Nat.le_of_ble_eq_true rfl) (fun σ3 e3 => ?_)
    replace e3 := e3.symm
    subst e3
    refine x_ifeqB (tgt := 30) (pc' := 21) hE dX9_graze_18 (by decide) rfl (fun h4 => ?_) (fun h4 => ?_)
    · try simp only [decide_eq_true_eq, decide_eq_false_iff_not] at h4
      refine x_bipush (pc' := 32) hE dX9_graze_30 rfl (by decide +kernel) ?_
      refine x_iret hE dX9_graze_32 ?_
      refine ⟨ri ?_, ?_⟩
      · first | (exfalso; omega) | skip
        first | ((unfold aGraze; rw [if_neg (by omega), if_neg (by omega), if_neg (by omega)]; rfl)) | skip
        all_goals unfold aGraze
        all_goals repeat' split
        all_goals first | rfl | omega | (exfalso; omega)
      · first | (exfalso; omega) | skip
        unfold sGraze
        repeat' split
        all_goals first | exact Sd.refl _ | (exfalso; omega) | assumption | (exact Sc.sd (by assumption)) | simp_all
    · try simp only [decide_eq_true_eq, decide_eq_false_iff_not] at h4
      refine x_iload_n (pc' := 22) hE dX9_graze_21 rfl rfl ?_
      refine x_iconst (pc' := 23) hE dX9_graze_22 rfl ?_
      refine x_iconst (pc' := 24) hE dX9_graze_23 rfl ?_
      refine x_cS1 (pc' := 27) hE hM (okM G) hl hR (c_X9_within l G _ _ _ _ ⟨by omega, by omega⟩ ⟨by omega, by omega⟩ ⟨by omega, by omega⟩) kX9_within tM_X9_75 (by decide) dX9_graze_24 rfl rfl (Nat.le_of_ble_eq_true rfl) (fun σ5 e5 => ?_)
      replace e5 := e5.symm
      subst e5
      refine x_ifneB (tgt := 33) (pc' := 30) hE dX9_graze_27 (by decide) rfl (fun h6 => ?_) (fun h6 => ?_)
      · try simp only [decide_eq_true_eq, decide_eq_false_iff_not] at h6
        refine x_aload_n (pc' := 34) hE dX9_graze_33 rfl rfl ?_
        refine gM_17 (pc' := 37) hE hM tF_X9_207 dX9_graze_34 rfl ?_
        refine x_bipush (pc' := 39) hE dX9_graze_37 rfl (by decide +kernel) ?_
        refine x_icmpne (tgt := 45) (pc' := 42) hE dX9_graze_39 (by decide) rfl ⟨by omega, by omega⟩ ⟨by omega, by omega⟩ (fun h7 => ?_) (fun h7 => ?_)
        · refine x_aload_n (pc' := 46) hE dX9_graze_45 rfl rfl ?_
          refine x_dup (pc' := 47) hE dX9_graze_46 rfl rfl ?_
          refine gM_17 (pc' := 50) hE hM tF_X9_207 dX9_graze_47 rfl ?_
          refine x_iconst (pc' := 51) hE dX9_graze_50 rfl ?_
          refine x_iadd (pc' := 52) hE dX9_graze_51 rfl ?_
          refine pM_17 (pc' := 55) hE hM tF_X9_207 dX9_graze_52 rfl ?_
          have hw1 : wv (up τ 0 0 0 17 (τ 0 0 0 17 + 1)) = wv τ := wv_up0 τ (by omega)
          have hf1 : fv (up τ 0 0 0 17 (τ 0 0 0 17 + 1)) = fv τ := fv_up0 τ (by omega)
          have hF1 := fok_up0 (j := 17) (v := τ 0 0 0 17 + 1) (by omega) hF
          have hW1 : WOk B (wv (up τ 0 0 0 17 (τ 0 0 0 17 + 1))) := by rw [hw1]; exact hW
          have hc1 : 0 ≤ up τ 0 0 0 17 (τ 0 0 0 17 + 1) 7 0 0 f ∧ up τ 0 0 0 17 (τ 0 0 0 17 + 1) 7 0 0 f ≤ 7 := by rw [up_n (by omega)]; exact hce f (by omega) (by omega)
          refine x_aload_n (pc' := 56) hE dX9_graze_55 rfl rfl ?_
          refine x_iload_n (pc' := 57) hE dX9_graze_56 rfl rfl ?_
          refine x_iload_n (pc' := 58) hE dX9_graze_57 rfl rfl ?_
          refine x_iload_n (pc' := 59) hE dX9_graze_58 rfl rfl ?_
          refine x_cV1 (pc' := 62) hE hM (okM G) hl hR (c_X9_grazeNow l G _ _ hW1 (by omega) hF1 _ _ _ (by omega) (by omega) (by omega) (by omega) (by omega) (by omega) hc1) kX9_grazeNow tM_X9_210 (rcvM hM) (by decide) dX9_graze_59 rfl rfl (Nat.le_of_ble_eq_true rfl) (fun σ8 e8 => ?_)
          have hsc := e8.sd
          rw [hw1, hf1]
          simp only [show up τ 0 0 0 17 (τ 0 0 0 17 + 1) 7 0 0 f = τ 7 0 0 f from up_n (by omega)]
          refine x_iret hE dX9_graze_62 ?_
          refine ⟨ri ?_, ?_⟩
          · unfold aGraze
            rw [if_neg (show ¬ nFk τ f by omega), if_neg (show ¬ (¬ (1 ≤ d ∧ d ≤ 6) ∨ ¬ (0 ≤ w ∧ w ≤ 1)) by omega), if_neg (show ¬ τ 0 0 0 17 = 60 by omega)]
            rfl
          · rw [sGraze, if_pos (by omega)]
            exact hsc
        · refine x_bipush (pc' := 44) hE dX9_graze_42 rfl (by decide +kernel) ?_
          refine x_iret hE dX9_graze_44 ?_
          refine ⟨ri ?_, ?_⟩
          · first | (exfalso; omega) | skip
            first | ((unfold aGraze; rw [if_neg (by omega), if_neg (by omega), if_neg (by omega)]; rfl)) | skip
            all_goals unfold aGraze
            all_goals repeat' split
            all_goals first | rfl | omega | (exfalso; omega)
          · first | (exfalso; omega) | skip
            unfold sGraze
            repeat' split
            all_goals first | exact Sd.refl _ | (exfalso; omega) | assumption | (exact Sc.sd (by assumption)) | simp_all
      · try simp only [decide_eq_true_eq, decide_eq_false_iff_not] at h6
        refine x_bipush (pc' := 32) hE dX9_graze_30 rfl (by decide +kernel) ?_
        refine x_iret hE dX9_graze_32 ?_
        refine ⟨ri ?_, ?_⟩
        · first | (exfalso; omega) | skip
          first | ((unfold aGraze; rw [if_neg (by omega), if_neg (by omega), if_neg (by omega)]; rfl)) | skip
          all_goals unfold aGraze
          all_goals repeat' split
          all_goals first | rfl | omega | (exfalso; omega)
        · first | (exfalso; omega) | skip
          unfold sGraze
          repeat' split
          all_goals first | exact Sd.refl _ | (exfalso; omega) | assumption | (exact Sc.sd (by assumption)) | simp_all
  · try simp only [decide_eq_true_eq, decide_eq_false_iff_not] at h2
    refine x_bipush (pc' := 10) hE dX9_graze_8 rfl (by decide +kernel) ?_
    refine x_iret hE dX9_graze_10 ?_
    refine ⟨ri ?_, ?_⟩
    · first | (exfalso; omega) | skip
      first | ((unfold aGraze; rw [if_neg (by omega), if_neg (by omega), if_neg (by omega)]; rfl)) | skip
      all_goals unfold aGraze
      all_goals repeat' split
      all_goals first | rfl | omega | (exfalso; omega)
    · first | (exfalso; omega) | skip
      unfold sGraze
      repeat' split
      all_goals first | exact Sd.refl _ | (exfalso; omega) | assumption | (exact Sc.sd (by assumption)) | simp_all
set_option maxHeartbeats 4000000 in
set_option maxRecDepth 10000 in
theorem c_X9_image (l : Launch) (G : GM) (τ : St) (B : Int) (hI : IM B τ) (hB : B ≤ 800000) : Ct l (YM G) yX9_image (.code yX9_image cX9_image 2 (some .int)) 1 [.ref (aM G 0)] τ (fun v τ' => v = some (.int (iN (τ 0 0 0 3))) ∧ Sd (sImage τ) τ') := by
  refine Ct_of (own := RX9) [some (.ref (aM G 0)), none] rfl rfl (Nat.le_of_ble_eq_true rfl) rfl ?_
  intro E hE hM hl hR
  obtain ⟨hW, hF, hrd, hak, hpl, hpg, hwt, hfr, hsn, hso, hce, hkp, hkk⟩ := hI
  obtain ⟨hnp, hnf, hday, hpp, hff, hcc⟩ := WT_of hW
  have hret : imB (imA (im0 τ) 8) 5 0 0 0 3 = τ 0 0 0 3 := by simp [imB, imA, im0, up]
  have loopB : ∀ (n : Nat) (k : Int), 0 ≤ k → k ≤ 5 → 5 - k = n → VV E 2 (AS (YM G)) (Qm (YM G) (fun v τ' => v = some (.int (iN (τ 0 0 0 3))) ∧ Sd (sImage τ) τ') E) (Rh (YM G) (imB (imA (im0 τ) 8) k)) 93 [some (.ref (aM G 0)), some (.int (iN (k)))] [] := by
    intro n
    induction n using Nat.strongRecOn with
    | _ n ih =>
    intro k g0 g1 g2
    generalize hS : imA (im0 τ) 8 = S at *
    refine x_iload_n (pc' := 94) hE dX9_image_93 rfl rfl ?_
    refine x_iconst (pc' := 95) hE dX9_image_94 rfl ?_
    refine x_icmpge (tgt := 140) (pc' := 98) hE dX9_image_95 (by decide) rfl ⟨by omega, by omega⟩ ⟨by omega, by omega⟩ (fun h1 => ?_) (fun h1 => ?_)
    · refine x_aload_n (pc' := 141) hE dX9_image_140 rfl rfl ?_
      refine gM_3 (pc' := 144) hE hM tF_X9_146 dX9_image_141 rfl ?_
      refine x_iret hE dX9_image_144 ?_
      have e : k = 5 := by omega
      subst e
      rw [hret]
      subst hS
      exact ⟨rfl, Sd.refl _⟩
    · refine x_aload_n (pc' := 99) hE dX9_image_98 rfl rfl ?_
      refine gM_39 (pc' := 102) hE hM tF_X9_66 dX9_image_99 rfl ?_
      refine x_iload_n (pc' := 103) hE dX9_image_102 rfl rfl ?_
      refine x_aload_n (pc' := 104) hE dX9_image_103 rfl rfl ?_
      refine gM_10 (pc' := 107) hE hM tF_X9_25 dX9_image_104 rfl ?_
      refine x_iload_n (pc' := 108) hE dX9_image_107 rfl rfl ?_
      refine aM_6 (pc' := 109) hE hM (by omega) (by omega) dX9_image_108 rfl ?_
      refine sM_18 (pc' := 110) hE hM (by omega) (by omega) dX9_image_109 rfl ?_
      refine x_aload_n (pc' := 111) hE dX9_image_110 rfl rfl ?_
      refine gM_40 (pc' := 114) hE hM tF_X9_69 dX9_image_111 rfl ?_
      refine x_iload_n (pc' := 115) hE dX9_image_114 rfl rfl ?_
      refine x_aload_n (pc' := 116) hE dX9_image_115 rfl rfl ?_
      refine gM_11 (pc' := 119) hE hM tF_X9_28 dX9_image_116 rfl ?_
      refine x_iload_n (pc' := 120) hE dX9_image_119 rfl rfl ?_
      refine aM_7 (pc' := 121) hE hM (by omega) (by omega) dX9_image_120 rfl ?_
      refine sM_19 (pc' := 122) hE hM (by omega) (by omega) dX9_image_121 rfl ?_
      refine x_aload_n (pc' := 123) hE dX9_image_122 rfl rfl ?_
      refine gM_41 (pc' := 126) hE hM tF_X9_72 dX9_image_123 rfl ?_
      refine x_iload_n (pc' := 127) hE dX9_image_126 rfl rfl ?_
      refine x_aload_n (pc' := 128) hE dX9_image_127 rfl rfl ?_
      refine gM_12 (pc' := 131) hE hM tF_X9_31 dX9_image_128 rfl ?_
      refine x_iload_n (pc' := 132) hE dX9_image_131 rfl rfl ?_
      refine aM_8 (pc' := 133) hE hM (by omega) (by omega) dX9_image_132 rfl ?_
      refine sM_20 (pc' := 134) hE hM (by omega) (by omega) dX9_image_133 rfl ?_
      refine x_iinc (pc' := 137) hE dX9_image_134 rfl rfl (by decide) rfl rfl ?_
      dsimp only [List.set]
      refine x_goto (tgt := 93) hE dX9_image_137 (by decide) ?_
      rw [imB_s S g0]
      exact ih (n - 1) (by omega) (k + 1) (by omega) (by omega) (by omega)
  have loopA : ∀ (n : Nat) (k : Int), 0 ≤ k → k ≤ 8 → 8 - k = n → VV E 2 (AS (YM G)) (Qm (YM G) (fun v τ' => v = some (.int (iN (τ 0 0 0 3))) ∧ Sd (sImage τ) τ') E) (Rh (YM G) (imA (im0 τ) k)) 55 [some (.ref (aM G 0)), some (.int (iN (k)))] [] := by
    intro n
    induction n using Nat.strongRecOn with
    | _ n ih =>
    intro k g0 g1 g2
    refine x_iload_n (pc' := 56) hE dX9_image_55 rfl rfl ?_
    refine x_bipush (pc' := 58) hE dX9_image_56 rfl (by decide +kernel) ?_
    refine x_icmpge (tgt := 91) (pc' := 61) hE dX9_image_58 (by decide) rfl ⟨by omega, by omega⟩ ⟨by omega, by omega⟩ (fun h2 => ?_) (fun h2 => ?_)
    · refine x_iconst (pc' := 92) hE dX9_image_91 rfl ?_
      refine x_istore_n (pc' := 93) hE dX9_image_92 rfl (by decide) rfl rfl ?_
      dsimp only [List.set]
      have e : k = 8 := by omega
      subst e
      rw [← imB_0 (imA (im0 τ) 8)]
      exact loopB 5 0 (by omega) (by omega) (by omega)
    · refine x_aload_n (pc' := 62) hE dX9_image_61 rfl rfl ?_
      refine gM_38 (pc' := 65) hE hM tF_X9_63 dX9_image_62 rfl ?_
      refine x_iload_n (pc' := 66) hE dX9_image_65 rfl rfl ?_
      refine x_aload_n (pc' := 67) hE dX9_image_66 rfl rfl ?_
      refine gM_4 (pc' := 70) hE hM tF_X9_13 dX9_image_67 rfl ?_
      refine x_iload_n (pc' := 71) hE dX9_image_70 rfl rfl ?_
      refine aM_2 (pc' := 72) hE hM (by omega) (by omega) dX9_image_71 rfl ?_
      refine sM_17 (pc' := 73) hE hM (by omega) (by omega) dX9_image_72 rfl ?_
      refine x_aload_n (pc' := 74) hE dX9_image_73 rfl rfl ?_
      refine gM_37 (pc' := 77) hE hM tF_X9_60 dX9_image_74 rfl ?_
      refine x_iload_n (pc' := 78) hE dX9_image_77 rfl rfl ?_
      refine x_aload_n (pc' := 79) hE dX9_image_78 rfl rfl ?_
      refine gM_16 (pc' := 82) hE hM tF_X9_38 dX9_image_79 rfl ?_
      refine x_iload_n (pc' := 83) hE dX9_image_82 rfl rfl ?_
      refine aM_9 (pc' := 84) hE hM (by omega) (by omega) dX9_image_83 rfl ?_
      refine sM_16 (pc' := 85) hE hM (by omega) (by omega) dX9_image_84 rfl ?_
      refine x_iinc (pc' := 88) hE dX9_image_85 rfl rfl (by decide) rfl rfl ?_
      dsimp only [List.set]
      refine x_goto (tgt := 55) hE dX9_image_88 (by decide) ?_
      rw [imA_s _ g0]
      exact ih (n - 1) (by omega) (k + 1) (by omega) (by omega) (by omega)
  refine x_aload_n (pc' := 1) hE dX9_image_0 rfl rfl ?_
  refine x_iconst (pc' := 2) hE dX9_image_1 rfl ?_
  refine pM_30 (pc' := 5) hE hM tF_X9_250 (by omega) dX9_image_2 rfl ?_
  refine x_aload_n (pc' := 6) hE dX9_image_5 rfl rfl ?_
  refine x_aload_n (pc' := 7) hE dX9_image_6 rfl rfl ?_
  refine gM_3 (pc' := 10) hE hM tF_X9_146 dX9_image_7 rfl ?_
  try rw [up_s]
  repeat rw [up_n (by omega)]
  refine pM_31 (pc' := 13) hE hM tF_X9_253 dX9_image_10 rfl ?_
  refine x_aload_n (pc' := 14) hE dX9_image_13 rfl rfl ?_
  refine x_aload_n (pc' := 15) hE dX9_image_14 rfl rfl ?_
  refine gM_5 (pc' := 18) hE hM tF_X9_122 dX9_image_15 rfl ?_
  try rw [up_s]
  repeat rw [up_n (by omega)]
  refine pM_32 (pc' := 21) hE hM tF_X9_256 dX9_image_18 rfl ?_
  refine x_aload_n (pc' := 22) hE dX9_image_21 rfl rfl ?_
  refine x_aload_n (pc' := 23) hE dX9_image_22 rfl rfl ?_
  refine gM_9 (pc' := 26) hE hM tF_X9_133 dX9_image_23 rfl ?_
  try rw [up_s]
  repeat rw [up_n (by omega)]
  refine pM_33 (pc' := 29) hE hM tF_X9_259 dX9_image_26 rfl ?_
  refine x_aload_n (pc' := 30) hE dX9_image_29 rfl rfl ?_
  refine x_aload_n (pc' := 31) hE dX9_image_30 rfl rfl ?_
  refine gM_13 (pc' := 34) hE hM tF_X9_34 dX9_image_31 rfl ?_
  try rw [up_s]
  repeat rw [up_n (by omega)]
  refine pM_34 (pc' := 37) hE hM tF_X9_262 dX9_image_34 rfl ?_
  refine x_aload_n (pc' := 38) hE dX9_image_37 rfl rfl ?_
  refine x_aload_n (pc' := 39) hE dX9_image_38 rfl rfl ?_
  refine gM_14 (pc' := 42) hE hM tF_X9_223 dX9_image_39 rfl ?_
  try rw [up_s]
  repeat rw [up_n (by omega)]
  refine pM_35 (pc' := 45) hE hM tF_X9_265 dX9_image_42 rfl ?_
  refine x_aload_n (pc' := 46) hE dX9_image_45 rfl rfl ?_
  refine x_aload_n (pc' := 47) hE dX9_image_46 rfl rfl ?_
  refine gM_15 (pc' := 50) hE hM tF_X9_220 dX9_image_47 rfl ?_
  try rw [up_s]
  repeat rw [up_n (by omega)]
  refine pM_36 (pc' := 53) hE hM tF_X9_268 dX9_image_50 rfl ?_
  refine x_iconst (pc' := 54) hE dX9_image_53 rfl ?_
  refine x_istore_n (pc' := 55) hE dX9_image_54 rfl (by decide) rfl rfl ?_
  dsimp only [List.set]
  have q := loopA 8 0 (by omega) (by omega) (by omega)
  rw [imA_0] at q
  exact q
set_option maxHeartbeats 4000000 in
set_option maxRecDepth 10000 in
theorem c_X9_restore (l : Launch) (G : GM) (τ : St) (B : Int) (hI : IM B τ) (hB : B ≤ 800000) : Ct l (YM G) yX9_restore (.code yX9_restore cX9_restore 2 (some .int)) 1 [.ref (aM G 0)] τ (fun v τ' => v = some (.int (iN (aRestore τ))) ∧ Sd (sRestore τ) τ') := by
  refine Ct_of (own := RX9) [some (.ref (aM G 0)), none] rfl rfl (Nat.le_of_ble_eq_true rfl) rfl ?_
  intro E hE hM hl hR
  obtain ⟨hW, hF, hrd, hak, hpl, hpg, hwt, hfr, hsn, hso, hce, hkp, hkk⟩ := hI
  obtain ⟨hnp, hnf, hday, hpp, hff, hcc⟩ := WT_of hW
  have hret : τ 0 0 0 30 ≠ 0 → reB (reA (re0 τ) 8) 5 0 0 0 3 = τ 0 0 0 31 := fun _ => by simp [reB, reA, re0, up]
  have loopB : ∀ (n : Nat) (k : Int), τ 0 0 0 30 ≠ 0 → 0 ≤ k → k ≤ 5 → 5 - k = n → VV E 2 (AS (YM G)) (Qm (YM G) (fun v τ' => v = some (.int (iN (aRestore τ))) ∧ Sd (sRestore τ) τ') E) (Rh (YM G) (reB (reA (re0 τ) 8) k)) 98 [some (.ref (aM G 0)), some (.int (iN (k)))] [] := by
    intro n
    induction n using Nat.strongRecOn with
    | _ n ih =>
    intro k hk g0 g1 g2
    generalize hS : reA (re0 τ) 8 = S at *
    refine x_iload_n (pc' := 99) hE dX9_restore_98 rfl rfl ?_
    refine x_iconst (pc' := 100) hE dX9_restore_99 rfl ?_
    refine x_icmpge (tgt := 145) (pc' := 103) hE dX9_restore_100 (by decide) rfl ⟨by omega, by omega⟩ ⟨by omega, by omega⟩ (fun h1 => ?_) (fun h1 => ?_)
    · refine x_aload_n (pc' := 146) hE dX9_restore_145 rfl rfl ?_
      refine gM_3 (pc' := 149) hE hM tF_X9_146 dX9_restore_146 rfl ?_
      refine x_iret hE dX9_restore_149 ?_
      have e : k = 5 := by omega
      subst e
      rw [hret hk]
      subst hS
      exact ⟨by rw [aRestore, if_neg hk], by rw [sRestore, if_neg hk]; exact Sd.refl _⟩
    · refine x_aload_n (pc' := 104) hE dX9_restore_103 rfl rfl ?_
      refine gM_10 (pc' := 107) hE hM tF_X9_25 dX9_restore_104 rfl ?_
      refine x_iload_n (pc' := 108) hE dX9_restore_107 rfl rfl ?_
      refine x_aload_n (pc' := 109) hE dX9_restore_108 rfl rfl ?_
      refine gM_39 (pc' := 112) hE hM tF_X9_66 dX9_restore_109 rfl ?_
      refine x_iload_n (pc' := 113) hE dX9_restore_112 rfl rfl ?_
      refine aM_18 (pc' := 114) hE hM (by omega) (by omega) dX9_restore_113 rfl ?_
      refine sM_6 (pc' := 115) hE hM (by omega) (by omega) dX9_restore_114 rfl ?_
      refine x_aload_n (pc' := 116) hE dX9_restore_115 rfl rfl ?_
      refine gM_11 (pc' := 119) hE hM tF_X9_28 dX9_restore_116 rfl ?_
      refine x_iload_n (pc' := 120) hE dX9_restore_119 rfl rfl ?_
      refine x_aload_n (pc' := 121) hE dX9_restore_120 rfl rfl ?_
      refine gM_40 (pc' := 124) hE hM tF_X9_69 dX9_restore_121 rfl ?_
      refine x_iload_n (pc' := 125) hE dX9_restore_124 rfl rfl ?_
      refine aM_19 (pc' := 126) hE hM (by omega) (by omega) dX9_restore_125 rfl ?_
      refine sM_7 (pc' := 127) hE hM (by omega) (by omega) dX9_restore_126 rfl ?_
      refine x_aload_n (pc' := 128) hE dX9_restore_127 rfl rfl ?_
      refine gM_12 (pc' := 131) hE hM tF_X9_31 dX9_restore_128 rfl ?_
      refine x_iload_n (pc' := 132) hE dX9_restore_131 rfl rfl ?_
      refine x_aload_n (pc' := 133) hE dX9_restore_132 rfl rfl ?_
      refine gM_41 (pc' := 136) hE hM tF_X9_72 dX9_restore_133 rfl ?_
      refine x_iload_n (pc' := 137) hE dX9_restore_136 rfl rfl ?_
      refine aM_20 (pc' := 138) hE hM (by omega) (by omega) dX9_restore_137 rfl ?_
      refine sM_8 (pc' := 139) hE hM (by omega) (by omega) dX9_restore_138 rfl ?_
      refine x_iinc (pc' := 142) hE dX9_restore_139 rfl rfl (by decide) rfl rfl ?_
      dsimp only [List.set]
      refine x_goto (tgt := 98) hE dX9_restore_142 (by decide) ?_
      rw [reB_s S g0]
      exact ih (n - 1) (by omega) (k + 1) hk (by omega) (by omega) (by omega)
  have loopA : ∀ (n : Nat) (k : Int), τ 0 0 0 30 ≠ 0 → 0 ≤ k → k ≤ 8 → 8 - k = n → VV E 2 (AS (YM G)) (Qm (YM G) (fun v τ' => v = some (.int (iN (aRestore τ))) ∧ Sd (sRestore τ) τ') E) (Rh (YM G) (reA (re0 τ) k)) 60 [some (.ref (aM G 0)), some (.int (iN (k)))] [] := by
    intro n
    induction n using Nat.strongRecOn with
    | _ n ih =>
    intro k hk g0 g1 g2
    refine x_iload_n (pc' := 61) hE dX9_restore_60 rfl rfl ?_
    refine x_bipush (pc' := 63) hE dX9_restore_61 rfl (by decide +kernel) ?_
    refine x_icmpge (tgt := 96) (pc' := 66) hE dX9_restore_63 (by decide) rfl ⟨by omega, by omega⟩ ⟨by omega, by omega⟩ (fun h2 => ?_) (fun h2 => ?_)
    · refine x_iconst (pc' := 97) hE dX9_restore_96 rfl ?_
      refine x_istore_n (pc' := 98) hE dX9_restore_97 rfl (by decide) rfl rfl ?_
      dsimp only [List.set]
      have e : k = 8 := by omega
      subst e
      rw [← reB_0 (reA (re0 τ) 8)]
      exact loopB 5 0 hk (by omega) (by omega) (by omega)
    · refine x_aload_n (pc' := 67) hE dX9_restore_66 rfl rfl ?_
      refine gM_4 (pc' := 70) hE hM tF_X9_13 dX9_restore_67 rfl ?_
      refine x_iload_n (pc' := 71) hE dX9_restore_70 rfl rfl ?_
      refine x_aload_n (pc' := 72) hE dX9_restore_71 rfl rfl ?_
      refine gM_38 (pc' := 75) hE hM tF_X9_63 dX9_restore_72 rfl ?_
      refine x_iload_n (pc' := 76) hE dX9_restore_75 rfl rfl ?_
      refine aM_17 (pc' := 77) hE hM (by omega) (by omega) dX9_restore_76 rfl ?_
      refine sM_2 (pc' := 78) hE hM (by omega) (by omega) dX9_restore_77 rfl ?_
      refine x_aload_n (pc' := 79) hE dX9_restore_78 rfl rfl ?_
      refine gM_16 (pc' := 82) hE hM tF_X9_38 dX9_restore_79 rfl ?_
      refine x_iload_n (pc' := 83) hE dX9_restore_82 rfl rfl ?_
      refine x_aload_n (pc' := 84) hE dX9_restore_83 rfl rfl ?_
      refine gM_37 (pc' := 87) hE hM tF_X9_60 dX9_restore_84 rfl ?_
      refine x_iload_n (pc' := 88) hE dX9_restore_87 rfl rfl ?_
      refine aM_16 (pc' := 89) hE hM (by omega) (by omega) dX9_restore_88 rfl ?_
      refine sM_9 (pc' := 90) hE hM (by omega) (by omega) dX9_restore_89 rfl ?_
      refine x_iinc (pc' := 93) hE dX9_restore_90 rfl rfl (by decide) rfl rfl ?_
      dsimp only [List.set]
      refine x_goto (tgt := 60) hE dX9_restore_93 (by decide) ?_
      rw [reA_s _ g0]
      exact ih (n - 1) (by omega) (k + 1) hk (by omega) (by omega) (by omega)
  refine x_aload_n (pc' := 1) hE dX9_restore_0 rfl rfl ?_
  refine gM_30 (pc' := 4) hE hM tF_X9_250 dX9_restore_1 rfl ?_
  try rw [up_s]
  repeat rw [up_n (by omega)]
  refine x_ifne (tgt := 10) (pc' := 7) hE dX9_restore_4 (by decide) rfl ⟨by omega, by omega⟩ (fun h3 => ?_) (fun h3 => ?_)
  · refine x_aload_n (pc' := 11) hE dX9_restore_10 rfl rfl ?_
    refine x_aload_n (pc' := 12) hE dX9_restore_11 rfl rfl ?_
    refine gM_31 (pc' := 15) hE hM tF_X9_253 dX9_restore_12 rfl ?_
    try rw [up_s]
    repeat rw [up_n (by omega)]
    refine pM_3 (pc' := 18) hE hM tF_X9_146 dX9_restore_15 rfl ?_
    refine x_aload_n (pc' := 19) hE dX9_restore_18 rfl rfl ?_
    refine x_aload_n (pc' := 20) hE dX9_restore_19 rfl rfl ?_
    refine gM_32 (pc' := 23) hE hM tF_X9_256 dX9_restore_20 rfl ?_
    try rw [up_s]
    repeat rw [up_n (by omega)]
    refine pM_5 (pc' := 26) hE hM tF_X9_122 dX9_restore_23 rfl ?_
    refine x_aload_n (pc' := 27) hE dX9_restore_26 rfl rfl ?_
    refine x_aload_n (pc' := 28) hE dX9_restore_27 rfl rfl ?_
    refine gM_33 (pc' := 31) hE hM tF_X9_259 dX9_restore_28 rfl ?_
    try rw [up_s]
    repeat rw [up_n (by omega)]
    refine pM_9 (pc' := 34) hE hM tF_X9_133 dX9_restore_31 rfl ?_
    refine x_aload_n (pc' := 35) hE dX9_restore_34 rfl rfl ?_
    refine x_aload_n (pc' := 36) hE dX9_restore_35 rfl rfl ?_
    refine gM_34 (pc' := 39) hE hM tF_X9_262 dX9_restore_36 rfl ?_
    try rw [up_s]
    repeat rw [up_n (by omega)]
    refine pM_13 (pc' := 42) hE hM tF_X9_34 dX9_restore_39 rfl ?_
    refine x_aload_n (pc' := 43) hE dX9_restore_42 rfl rfl ?_
    refine x_aload_n (pc' := 44) hE dX9_restore_43 rfl rfl ?_
    refine gM_35 (pc' := 47) hE hM tF_X9_265 dX9_restore_44 rfl ?_
    try rw [up_s]
    repeat rw [up_n (by omega)]
    refine pM_14 (pc' := 50) hE hM tF_X9_223 dX9_restore_47 rfl ?_
    refine x_aload_n (pc' := 51) hE dX9_restore_50 rfl rfl ?_
    refine x_aload_n (pc' := 52) hE dX9_restore_51 rfl rfl ?_
    refine gM_36 (pc' := 55) hE hM tF_X9_268 dX9_restore_52 rfl ?_
    try rw [up_s]
    repeat rw [up_n (by omega)]
    refine pM_15 (pc' := 58) hE hM tF_X9_220 dX9_restore_55 rfl ?_
    refine x_iconst (pc' := 59) hE dX9_restore_58 rfl ?_
    refine x_istore_n (pc' := 60) hE dX9_restore_59 rfl (by decide) rfl rfl ?_
    dsimp only [List.set]
    have hk : τ 0 0 0 30 ≠ 0 := by omega
    have q := loopA 8 0 hk (by omega) (by omega) (by omega)
    rw [reA_0] at q
    exact q
  · refine x_bipush (pc' := 9) hE dX9_restore_7 rfl (by decide +kernel) ?_
    refine x_iret hE dX9_restore_9 ?_
    have hk : τ 0 0 0 30 = 0 := by omega
    exact ⟨by rw [aRestore, if_pos hk], by rw [sRestore, if_pos hk]; exact Sd.refl _⟩
