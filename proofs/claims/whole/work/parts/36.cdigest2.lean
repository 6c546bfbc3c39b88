set_option maxHeartbeats 4000000 in
set_option maxRecDepth 10000 in
theorem c_X8_digest (l : Launch) (G : GC) (σ : St) (τ : St) (B : Int) (hI : IM B τ) (hC : RC σ τ) (hB : B ≤ 800000) (hB9 : B ≤ 9000) : Ct l (YC G) yX8_digest (.code yX8_digest cX8_digest 4 (some .long)) 6 [.ref (aC G 0 0 0)] σ (fun v σ' => v = some (.long (lL (aDigest τ))) ∧ RC σ' τ) := by
  refine Ct_of (own := RX8) [some (.ref (aC G 0 0 0)), none, none, none] rfl rfl (Nat.le_of_ble_eq_true rfl) rfl ?_
  intro E hE hM hl hR
  obtain ⟨hW, hF, hrd, hak, hpl, hpg, hwt, hfr, hsn, hso, hce, hkp, hkk⟩ := id hI
  obtain ⟨hnp, hnf, hday, hpp, hff, hcc⟩ := WT_of hW
  obtain ⟨cP, ⟨cN, hRF⟩, hRW, cS, cI, cK, cR, cA⟩ := id hC
  obtain ⟨r1, r2, r3, r4, r5, r6, r7⟩ := id hRW
  obtain ⟨p1, p2⟩ := id cP
  have w00 : wv τ 0 0 = τ 0 0 0 5 := rfl
  have w01 : wv τ 0 1 = τ 0 0 0 9 := rfl
  have w02 : wv τ 0 2 = τ 0 0 0 3 := rfl
  obtain ⟨c1, c2, c3, c4⟩ := id cS
  have l6 : ∀ (n : Nat) (k : Int) (S : St), RC S τ → 0 ≤ k → k ≤ 10 → 10 - k = n → VV E 4 (AS (YC G)) (Qm (YC G) (fun v σ' => v = some (.long (lL (aDigest τ))) ∧ RC σ' τ) E) (Rh (YC G) (S)) 157 [some (.ref (aC G 0 0 0)), some (.long (lL (mixU (cnN (wv τ) (τ 0 0 0 1) (τ 0 0 0 18) (τ 0 0 0 0) (τ 0 0 0 17) (τ 0 0 0 15)) (k).toNat (dg7 (fv τ) (wv τ) (τ 0 0 0 18) (τ 0 0 0 13) (τ 0 0 0 14) (τ 0 0 0 15) (τ 9 0 0) (τ 10 0 0))))), none, some (.int (iN (k)))] [] := by
    intro n
    induction n using Nat.strongRecOn with
    | _ n ih =>
    intro k S hCS g0 g1 g2
    obtain ⟨cPS, ⟨-, hRFS⟩, hRS, cSS, -⟩ := id hCS
    obtain ⟨t1, t2, t3, t4, t5, t6, t7⟩ := id hRS
    have hb := cnN_bd (fn := τ 0 0 0 1) (pn := τ 0 0 0 18) (rd := τ 0 0 0 0) (ak := τ 0 0 0 17) (sn := τ 0 0 0 15) hW (by omega) hF.1 (by omega) (by omega) (by omega) (by omega) k
    have ea : aCount τ k = cnN (wv τ) (τ 0 0 0 1) (τ 0 0 0 18) (τ 0 0 0 0) (τ 0 0 0 17) (τ 0 0 0 15) k := rfl
    refine x_iload_n (pc' := 158) hE dX8_digest_157 rfl rfl ?_
    refine x_bipush (pc' := 160) hE dX8_digest_158 rfl (by decide +kernel) ?_
    refine x_icmpgt (tgt := 180) (pc' := 163) hE dX8_digest_160 (by decide) rfl ⟨by omega, by omega⟩ ⟨by omega, by omega⟩ (fun h1 => ?_) (fun h1 => ?_)
    · refine x_lload_n (pc' := 181) hE dX8_digest_180 rfl rfl ?_
      refine x_lret hE dX8_digest_181 ?_
      have e : k = 10 := by omega
      subst e
      exact ⟨rfl, hCS⟩
    · refine x_lload_n (pc' := 164) hE dX8_digest_163 rfl rfl ?_
      refine x_aload_n (pc' := 165) hE dX8_digest_164 rfl rfl ?_
      refine x_iload_n (pc' := 166) hE dX8_digest_165 rfl rfl ?_
      refine x_cV1 (pc' := 169) hE hM (okC G) hl hR (c_X8_count l G _ τ B hI hCS hB _ ⟨by omega, by omega⟩) kX8_count tM_X8_275 (rcv_X8 hM) (by decide) dX8_digest_166 rfl rfl (Nat.le_of_ble_eq_true rfl) (fun σ2 e2 => ?_)
      rw [ea]
      refine x_i2l (pc' := 170) hE dX8_digest_169 rfl ⟨by omega, by omega⟩ ?_
      refine x_cS1 (pc' := 173) hE hM (okC G) hl hR (c_X8_mixed l G _ _ _) kX8_mixed tM_X8_257 (by decide) dX8_digest_170 rfl rfl (Nat.le_of_ble_eq_true rfl) (fun σ3 e3 => ?_)
      replace e3 := e3.symm
      subst e3
      refine x_lstore_n (pc' := 174) hE dX8_digest_173 rfl (by decide) rfl rfl ?_
      dsimp only [List.set]
      refine x_iinc (pc' := 177) hE dX8_digest_174 rfl rfl (by decide) rfl rfl ?_
      dsimp only [List.set]
      refine x_goto (tgt := 157) hE dX8_digest_177 (by decide) ?_
      refine x_lve (lv' := [some (.ref (aC G 0 0 0)), some (.long (lL (mixU (cnN (wv τ) (τ 0 0 0 1) (τ 0 0 0 18) (τ 0 0 0 0) (τ 0 0 0 17) (τ 0 0 0 15)) (k + 1).toNat (dg7 (fv τ) (wv τ) (τ 0 0 0 18) (τ 0 0 0 13) (τ 0 0 0 14) (τ 0 0 0 15) (τ 9 0 0) (τ 10 0 0))))), none, some (.int (iN (k + 1)))]) (by rw [mixU_s _ g0]) (ih (n - 1) (by omega) (k + 1) _ e2 (by omega) (by omega) (by omega))
  have l5 : ∀ (n : Nat) (k : Int) (S : St), RC S τ → 0 ≤ k → k ≤ τ 0 0 0 18 → τ 0 0 0 18 - k = n → VV E 4 (AS (YC G)) (Qm (YC G) (fun v σ' => v = some (.long (lL (aDigest τ))) ∧ RC σ' τ) E) (Rh (YC G) (S)) 123 [some (.ref (aC G 0 0 0)), some (.long (lL (mixU (τ 10 0 0) (k).toNat (dg6 (fv τ) (wv τ) (τ 0 0 0 13) (τ 0 0 0 14) (τ 0 0 0 15) (τ 9 0 0))))), none, some (.int (iN (k)))] [] := by
    intro n
    induction n using Nat.strongRecOn with
    | _ n ih =>
    intro k S hCS g0 g1 g2
    obtain ⟨cPS, ⟨-, hRFS⟩, hRS, cSS, -⟩ := id hCS
    obtain ⟨t1, t2, t3, t4, t5, t6, t7⟩ := id hRS
    have u1 := cPS.1
    refine x_iload_n (pc' := 124) hE dX8_digest_123 rfl rfl ?_
    refine x_aload_n (pc' := 125) hE dX8_digest_124 rfl rfl ?_
    refine g_X8_0 (pc' := 128) hE hM tF_X8_12 dX8_digest_125 rfl ?_
    refine gN_X5_1 (pc' := 131) hE hM (fun _ h => nF_X8_47 h) dX8_digest_128 rfl ?_
    refine x_icmpge (tgt := 155) (pc' := 134) hE dX8_digest_131 (by decide) rfl ⟨by omega, by omega⟩ ⟨by omega, by omega⟩ (fun h4 => ?_) (fun h4 => ?_)
    · refine x_iconst (pc' := 156) hE dX8_digest_155 rfl ?_
      refine x_istore_n (pc' := 157) hE dX8_digest_156 rfl (by decide) rfl rfl ?_
      dsimp only [List.set]
      have e : k = τ 0 0 0 18 := by omega
      subst e
      exact l6 10 0 S hCS (by omega) (by omega) (by omega)
    · have q1 := hpg k (by omega) (by omega)
      have q2 := cPS.2 k (by omega) (by omega)
      refine x_lload_n (pc' := 135) hE dX8_digest_134 rfl rfl ?_
      refine x_aload_n (pc' := 136) hE dX8_digest_135 rfl rfl ?_
      refine g_X8_0 (pc' := 139) hE hM tF_X8_12 dX8_digest_136 rfl ?_
      refine gN_X5_0 (pc' := 142) hE hM (fun _ h => nF_X8_271 h) dX8_digest_139 rfl ?_
      refine x_iload_n (pc' := 143) hE dX8_digest_142 rfl rfl ?_
      refine aC_2 (pc' := 144) hE hM (by omega) (by omega) dX8_digest_143 rfl ?_
      rw [q2]
      refine x_i2l (pc' := 145) hE dX8_digest_144 rfl ⟨by omega, by omega⟩ ?_
      refine x_cS1 (pc' := 148) hE hM (okC G) hl hR (c_X8_mixed l G _ _ _) kX8_mixed tM_X8_257 (by decide) dX8_digest_145 rfl rfl (Nat.le_of_ble_eq_true rfl) (fun σ5 e5 => ?_)
      replace e5 := e5.symm
      subst e5
      refine x_lstore_n (pc' := 149) hE dX8_digest_148 rfl (by decide) rfl rfl ?_
      dsimp only [List.set]
      refine x_iinc (pc' := 152) hE dX8_digest_149 rfl rfl (by decide) rfl rfl ?_
      dsimp only [List.set]
      refine x_goto (tgt := 123) hE dX8_digest_152 (by decide) ?_
      refine x_lve (lv' := [some (.ref (aC G 0 0 0)), some (.long (lL (mixU (τ 10 0 0) (k + 1).toNat (dg6 (fv τ) (wv τ) (τ 0 0 0 13) (τ 0 0 0 14) (τ 0 0 0 15) (τ 9 0 0))))), none, some (.int (iN (k + 1)))]) (by rw [mixU_s _ g0]) (ih (n - 1) (by omega) (k + 1) _ hCS (by omega) (by omega) (by omega))
  have l2 : ∀ (n : Nat) (k : Int) (S : St), RC S τ → 0 ≤ k → k ≤ 8 → 8 - k = n → VV E 4 (AS (YC G)) (Qm (YC G) (fun v σ' => v = some (.long (lL (aDigest τ))) ∧ RC σ' τ) E) (Rh (YC G) (S)) 37 [some (.ref (aC G 0 0 0)), some (.long (lL (mixU (fun c => wv τ 7 c) (k).toNat (dg1 (fv τ) (wv τ))))), none, some (.int (iN (k)))] [] := by
    intro n
    induction n using Nat.strongRecOn with
    | _ n ih =>
    intro k S hCS g0 g1 g2
    obtain ⟨cPS, ⟨-, hRFS⟩, hRS, cSS, -⟩ := id hCS
    obtain ⟨t1, t2, t3, t4, t5, t6, t7⟩ := id hRS
    have el := eatN_bd hW
    have el2 := eatN_bd (dN_ok (F := fv τ) hW (30 : Int).toNat)
    refine x_iload_n (pc' := 38) hE dX8_digest_37 rfl rfl ?_
    refine x_bipush (pc' := 40) hE dX8_digest_38 rfl (by decide +kernel) ?_
    refine x_icmpge (tgt := 64) (pc' := 43) hE dX8_digest_40 (by decide) rfl ⟨by omega, by omega⟩ ⟨by omega, by omega⟩ (fun h6 => ?_) (fun h6 => ?_)
    · have ek : k = 8 := by omega
      subst ek
      refine x_aload_n (pc' := 65) hE dX8_digest_64 rfl rfl ?_
      refine x_lload_n (pc' := 66) hE dX8_digest_65 rfl rfl ?_
      refine x_cV1 (pc' := 69) hE hM (okC G) hl hR (c_X8_withPacks l G _ τ B hI hCS hB _) kX8_withPacks tM_X8_261 (rcv_X8 hM) (by decide) dX8_digest_66 rfl rfl (Nat.le_of_ble_eq_true rfl) (fun σ7 e7 => ?_)
      have hC3 := e7
      refine x_lstore_n (pc' := 70) hE dX8_digest_69 rfl (by decide) rfl rfl ?_
      dsimp only [List.set]
      refine x_aload_n (pc' := 71) hE dX8_digest_70 rfl rfl ?_
      refine x_lload_n (pc' := 72) hE dX8_digest_71 rfl rfl ?_
      refine x_cV1 (pc' := 75) hE hM (okC G) hl hR (c_X8_withFlocks l G _ τ B hI hC3 hB _) kX8_withFlocks tM_X8_265 (rcv_X8 hM) (by decide) dX8_digest_72 rfl rfl (Nat.le_of_ble_eq_true rfl) (fun σ8 e8 => ?_)
      have hC4 := e8
      obtain ⟨-, ⟨-, hRF4⟩, hR4, -⟩ := id hC4
      refine x_lstore_n (pc' := 76) hE dX8_digest_75 rfl (by decide) rfl rfl ?_
      dsimp only [List.set]
      refine x_lload_n (pc' := 77) hE dX8_digest_76 rfl rfl ?_
      refine x_aload_n (pc' := 78) hE dX8_digest_77 rfl rfl ?_
      refine x_bipush (pc' := 80) hE dX8_digest_78 rfl (by decide +kernel) ?_
      refine x_cV1 (pc' := 83) hE hM (okC G) hl hR (c_X8_lossIn l G _ _ _ hR4 hW (by omega) _ hRF4 _ (by omega) (by omega)) kX8_lossIn tM_X8_177 (rcv_X8 hM) (by decide) dX8_digest_80 rfl rfl (Nat.le_of_ble_eq_true rfl) (fun σ9 e9 => ?_)
      have hC5 := hC4.try e9
      obtain ⟨-, -, -, cS5, -⟩ := id hC5
      obtain ⟨v1, v2, v3, v4⟩ := id cS5
      refine x_i2l (pc' := 84) hE dX8_digest_83 rfl ⟨by omega, by omega⟩ ?_
      refine x_cS1 (pc' := 87) hE hM (okC G) hl hR (c_X8_mixed l G _ _ _) kX8_mixed tM_X8_257 (by decide) dX8_digest_84 rfl rfl (Nat.le_of_ble_eq_true rfl) (fun σ10 e10 => ?_)
      replace e10 := e10.symm
      subst e10
      refine x_lstore_n (pc' := 88) hE dX8_digest_87 rfl (by decide) rfl rfl ?_
      dsimp only [List.set]
      refine x_aload_n (pc' := 89) hE dX8_digest_88 rfl rfl ?_
      refine g_X8_2 (pc' := 92) hE hM tF_X8_26 dX8_digest_89 rfl ?_
      refine gN_X7_3 (pc' := 95) (by omega) hE hM (fun _ h => nF_X8_201 h) dX8_digest_92 rfl ?_
      refine x_cV1 (pc' := 98) hE hM (okC G) hl hR (c_X6_hasBegun l G _ _ (by omega) ⟨by omega, by omega⟩) kX6_hasBegun tM_X8_216 (rcv_X6 (by omega) hM) (by decide) dX8_digest_95 rfl rfl (Nat.le_of_ble_eq_true rfl) (fun σ11 e11 => ?_)
      replace e11 := e11.symm
      subst e11
      refine x_ifeqB (tgt := 121) (pc' := 101) hE dX8_digest_98 (by decide) rfl (fun h12 => ?_) (fun h12 => ?_)
      · try simp only [decide_eq_true_eq, decide_eq_false_iff_not] at h12
        refine x_iconst (pc' := 122) hE dX8_digest_121 rfl ?_
        refine x_istore_n (pc' := 123) hE dX8_digest_122 rfl (by decide) rfl rfl ?_
        dsimp only [List.set]
        refine x_lve (lv' := [some (.ref (aC G 0 0 0)), some (.long (lL (mixU (τ 10 0 0) ((0 : Int)).toNat (dg6 (fv τ) (wv τ) (τ 0 0 0 13) (τ 0 0 0 14) (τ 0 0 0 15) (τ 9 0 0))))), none, some (.int (iN (0)))]) ?_ (l5 (τ 0 0 0 18).toNat 0 _ hC5 (by omega) (by omega) (by omega))
        rw [show mixU (τ 10 0 0) ((0 : Int)).toNat (dg6 (fv τ) (wv τ) (τ 0 0 0 13) (τ 0 0 0 14) (τ 0 0 0 15) (τ 9 0 0)) = dg6 (fv τ) (wv τ) (τ 0 0 0 13) (τ 0 0 0 14) (τ 0 0 0 15) (τ 9 0 0) from rfl, dg6, if_pos (by omega)]
        rfl
      · try simp only [decide_eq_true_eq, decide_eq_false_iff_not] at h12
        have ef : ∀ w, 0 ≤ w → w ≤ 1 → aFits τ w = fitW (fv τ) (wv τ 7 (wv τ 2 (τ 0 0 0 13))) (wv τ 3 (τ 0 0 0 13)) (τ 0 0 0 14) (τ 9 0 0) (τ 0 0 0 15).toNat w := fun w q0 q1 => by unfold aFits; rw [if_neg (by omega), if_neg (by omega)]; rfl
        have hf0 := fitW_bd (fv τ) (wv τ 7 (wv τ 2 (τ 0 0 0 13))) (wv τ 3 (τ 0 0 0 13)) (τ 0 0 0 14) (τ 9 0 0) (τ 0 0 0 15).toNat 0
        have hf1 := fitW_bd (fv τ) (wv τ 7 (wv τ 2 (τ 0 0 0 13))) (wv τ 3 (τ 0 0 0 13)) (τ 0 0 0 14) (τ 9 0 0) (τ 0 0 0 15).toNat 1
        refine x_lload_n (pc' := 102) hE dX8_digest_101 rfl rfl ?_
        refine x_aload_n (pc' := 103) hE dX8_digest_102 rfl rfl ?_
        refine x_iconst (pc' := 104) hE dX8_digest_103 rfl ?_
        refine x_cV1 (pc' := 107) hE hM (okC G) hl hR (c_X8_fits l G _ τ B hI hC5 hB _ ⟨by omega, by omega⟩) kX8_fits tM_X8_268 (rcv_X8 hM) (by decide) dX8_digest_104 rfl rfl (Nat.le_of_ble_eq_true rfl) (fun σ13 e13 => ?_)
        rw [ef _ (by omega) (by omega)]
        have hC6 := e13
        refine x_i2l (pc' := 108) hE dX8_digest_107 rfl ⟨by omega, by omega⟩ ?_
        refine x_cS1 (pc' := 111) hE hM (okC G) hl hR (c_X8_mixed l G _ _ _) kX8_mixed tM_X8_257 (by decide) dX8_digest_108 rfl rfl (Nat.le_of_ble_eq_true rfl) (fun σ14 e14 => ?_)
        replace e14 := e14.symm
        subst e14
        refine x_aload_n (pc' := 112) hE dX8_digest_111 rfl rfl ?_
        refine x_iconst (pc' := 113) hE dX8_digest_112 rfl ?_
        refine x_cV1 (pc' := 116) hE hM (okC G) hl hR (c_X8_fits l G _ τ B hI hC6 hB _ ⟨by omega, by omega⟩) kX8_fits tM_X8_268 (rcv_X8 hM) (by decide) dX8_digest_113 rfl rfl (Nat.le_of_ble_eq_true rfl) (fun σ15 e15 => ?_)
        rw [ef _ (by omega) (by omega)]
        have hC7 := e15
        refine x_i2l (pc' := 117) hE dX8_digest_116 rfl ⟨by omega, by omega⟩ ?_
        refine x_cS1 (pc' := 120) hE hM (okC G) hl hR (c_X8_mixed l G _ _ _) kX8_mixed tM_X8_257 (by decide) dX8_digest_117 rfl rfl (Nat.le_of_ble_eq_true rfl) (fun σ16 e16 => ?_)
        replace e16 := e16.symm
        subst e16
        refine x_lstore_n (pc' := 121) hE dX8_digest_120 rfl (by decide) rfl rfl ?_
        dsimp only [List.set]
        refine x_iconst (pc' := 122) hE dX8_digest_121 rfl ?_
        refine x_istore_n (pc' := 123) hE dX8_digest_122 rfl (by decide) rfl rfl ?_
        dsimp only [List.set]
        refine x_lve (lv' := [some (.ref (aC G 0 0 0)), some (.long (lL (mixU (τ 10 0 0) ((0 : Int)).toNat (dg6 (fv τ) (wv τ) (τ 0 0 0 13) (τ 0 0 0 14) (τ 0 0 0 15) (τ 9 0 0))))), none, some (.int (iN (0)))]) ?_ (l5 (τ 0 0 0 18).toNat 0 _ hC7 (by omega) (by omega) (by omega))
        rw [show mixU (τ 10 0 0) ((0 : Int)).toNat (dg6 (fv τ) (wv τ) (τ 0 0 0 13) (τ 0 0 0 14) (τ 0 0 0 15) (τ 9 0 0)) = dg6 (fv τ) (wv τ) (τ 0 0 0 13) (τ 0 0 0 14) (τ 0 0 0 15) (τ 9 0 0) from rfl, dg6, if_neg (by omega)]
        rfl
    · have q1 := hcc k (by omega) (by omega)
      have q2 := t7 k (by omega) (by omega)
      have q3 : wv τ 7 k = τ 2 0 0 k := rfl
      refine x_lload_n (pc' := 44) hE dX8_digest_43 rfl rfl ?_
      refine x_aload_n (pc' := 45) hE dX8_digest_44 rfl rfl ?_
      refine g_X8_2 (pc' := 48) hE hM tF_X8_26 dX8_digest_45 rfl ?_
      refine gN_X7_2 (pc' := 51) (by omega) hE hM (fun _ h => nF_X8_83 h) dX8_digest_48 rfl ?_
      refine x_iload_n (pc' := 52) hE dX8_digest_51 rfl rfl ?_
      refine aC_9 (pc' := 53) (by omega) hE hM (by omega) (by omega) dX8_digest_52 rfl ?_
      rw [q2]
      refine x_i2l (pc' := 54) hE dX8_digest_53 rfl ⟨by omega, by omega⟩ ?_
      refine x_cS1 (pc' := 57) hE hM (okC G) hl hR (c_X8_mixed l G _ _ _) kX8_mixed tM_X8_257 (by decide) dX8_digest_54 rfl rfl (Nat.le_of_ble_eq_true rfl) (fun σ17 e17 => ?_)
      replace e17 := e17.symm
      subst e17
      refine x_lstore_n (pc' := 58) hE dX8_digest_57 rfl (by decide) rfl rfl ?_
      dsimp only [List.set]
      refine x_iinc (pc' := 61) hE dX8_digest_58 rfl rfl (by decide) rfl rfl ?_
      dsimp only [List.set]
      refine x_goto (tgt := 37) hE dX8_digest_61 (by decide) ?_
      refine x_lve (lv' := [some (.ref (aC G 0 0 0)), some (.long (lL (mixU (fun c => wv τ 7 c) (k + 1).toNat (dg1 (fv τ) (wv τ))))), none, some (.int (iN (k + 1)))]) (by rw [mixU_s _ g0]) (ih (n - 1) (by omega) (k + 1) _ hCS (by omega) (by omega) (by omega))
  have l1 : ∀ (n : Nat) (k : Int) (S : St), RC S τ → 0 ≤ k → k ≤ 4 → 4 - k = n → VV E 4 (AS (YC G)) (Qm (YC G) (fun v σ' => v = some (.long (lL (aDigest τ))) ∧ RC σ' τ) E) (Rh (YC G) (S)) 6 [some (.ref (aC G 0 0 0)), some (.long (lL (mixU (dyN (fv τ) (wv τ 0 2)) (k).toNat 743))), none, some (.int (iN (k)))] [] := by
    intro n
    induction n using Nat.strongRecOn with
    | _ n ih =>
    intro k S hCS g0 g1 g2
    obtain ⟨cPS, ⟨-, hRFS⟩, hRS, cSS, -⟩ := id hCS
    obtain ⟨t1, t2, t3, t4, t5, t6, t7⟩ := id hRS
    have hb := dyN_bd (fv τ) (z := wv τ 0 2) (by omega) k
    have ea : k ≤ 3 → aDayOf τ (wv τ 0 2) k = dyN (fv τ) (wv τ 0 2) k := fun q => by unfold aDayOf; rw [if_neg (by omega), if_pos (by omega)]
    refine x_iload_n (pc' := 7) hE dX8_digest_6 rfl rfl ?_
    refine x_iconst (pc' := 8) hE dX8_digest_7 rfl ?_
    refine x_icmpgt (tgt := 35) (pc' := 11) hE dX8_digest_8 (by decide) rfl ⟨by omega, by omega⟩ ⟨by omega, by omega⟩ (fun h18 => ?_) (fun h18 => ?_)
    · refine x_iconst (pc' := 36) hE dX8_digest_35 rfl ?_
      refine x_istore_n (pc' := 37) hE dX8_digest_36 rfl (by decide) rfl rfl ?_
      dsimp only [List.set]
      have e : k = 4 := by omega
      subst e
      exact l2 8 0 S hCS (by omega) (by omega) (by omega)
    · refine x_lload_n (pc' := 12) hE dX8_digest_11 rfl rfl ?_
      refine x_aload_n (pc' := 13) hE dX8_digest_12 rfl rfl ?_
      refine x_aload_n (pc' := 14) hE dX8_digest_13 rfl rfl ?_
      refine g_X8_2 (pc' := 17) hE hM tF_X8_26 dX8_digest_14 rfl ?_
      refine gN_X7_6 (pc' := 20) (by omega) hE hM (fun _ h => nF_X8_210 h) dX8_digest_17 rfl ?_
      rw [t3]
      refine x_iload_n (pc' := 21) hE dX8_digest_20 rfl rfl ?_
      refine x_cV1 (pc' := 24) hE hM (okC G) hl hR (c_X8_dayOf l G _ τ B hI hCS hB _ ⟨by omega, by omega⟩ _ ⟨by omega, by omega⟩) kX8_dayOf tM_X8_254 (rcv_X8 hM) (by decide) dX8_digest_21 rfl rfl (Nat.le_of_ble_eq_true rfl) (fun σ19 e19 => ?_)
      rw [ea (by omega)]
      refine x_i2l (pc' := 25) hE dX8_digest_24 rfl ⟨by omega, by omega⟩ ?_
      refine x_cS1 (pc' := 28) hE hM (okC G) hl hR (c_X8_mixed l G _ _ _) kX8_mixed tM_X8_257 (by decide) dX8_digest_25 rfl rfl (Nat.le_of_ble_eq_true rfl) (fun σ20 e20 => ?_)
      replace e20 := e20.symm
      subst e20
      refine x_lstore_n (pc' := 29) hE dX8_digest_28 rfl (by decide) rfl rfl ?_
      dsimp only [List.set]
      refine x_iinc (pc' := 32) hE dX8_digest_29 rfl rfl (by decide) rfl rfl ?_
      dsimp only [List.set]
      refine x_goto (tgt := 6) hE dX8_digest_32 (by decide) ?_
      refine x_lve (lv' := [some (.ref (aC G 0 0 0)), some (.long (lL (mixU (dyN (fv τ) (wv τ 0 2)) (k + 1).toNat 743))), none, some (.int (iN (k + 1)))]) (by rw [mixU_s _ g0]) (ih (n - 1) (by omega) (k + 1) _ e19 (by omega) (by omega) (by omega))
  refine x_ldc2 (pc' := 3) hE dX8_digest_0 rfl tV_X8_252 ?_
  refine x_st (st' := [.long (lL 743)]) (by rw [show (743 : Int64) = lL 743 by decide +kernel]) ?_
  refine x_lstore_n (pc' := 4) hE dX8_digest_3 rfl (by decide) rfl rfl ?_
  dsimp only [List.set]
  refine x_iconst (pc' := 5) hE dX8_digest_4 rfl ?_
  refine x_istore_n (pc' := 6) hE dX8_digest_5 rfl (by decide) rfl rfl ?_
  dsimp only [List.set]
  exact l1 4 0 σ hC (by omega) (by omega) (by omega)
