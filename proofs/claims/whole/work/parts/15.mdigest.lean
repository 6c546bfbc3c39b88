def dg1 (F : Int → Bool) (W : Wd) : Int := mixU (dyN F (W 0 2)) 4 743
def dg2 (F : Int → Bool) (W : Wd) : Int := mixU (fun c => W 7 c) 8 (dg1 F W)
def dg3 (F : Int → Bool) (W : Wd) : Int := dgP F W (W 0 0).toNat (dg2 F W)
theorem dg4_e (F : Int → Bool) (W : Wd) : dg4 F W = dgF F W (W 0 1).toNat (dg3 F W) := rfl
def dg7 (F : Int → Bool) (W : Wd) (pn wt fr sn : Int) (S pg : Int → Int) : Int := mixU pg pn.toNat (dg6 F W wt fr sn S)
theorem dgM_e (F : Int → Bool) (W : Wd) (fn pn rd ak wt fr sn : Int) (S pg : Int → Int) : dgM F W fn pn rd ak wt fr sn S pg = mixU (cnN W fn pn rd ak sn) 10 (dg7 F W pn wt fr sn S pg) := rfl
theorem Sd.sl {τ τ' : St} (h : Sd τ τ') : τ' 0 0 0 0 = τ 0 0 0 0 ∧ τ' 0 0 0 1 = τ 0 0 0 1 ∧ τ' 0 0 0 3 = τ 0 0 0 3 ∧ τ' 0 0 0 5 = τ 0 0 0 5 ∧ τ' 0 0 0 9 = τ 0 0 0 9 ∧ τ' 0 0 0 13 = τ 0 0 0 13 ∧ τ' 0 0 0 14 = τ 0 0 0 14 ∧ τ' 0 0 0 15 = τ 0 0 0 15 ∧ τ' 0 0 0 17 = τ 0 0 0 17 ∧ τ' 0 0 0 18 = τ 0 0 0 18 :=
  ⟨h.at 0 0 (by omega), h.at 0 1 (by omega), h.at 0 3 (by omega), h.at 0 5 (by omega), h.at 0 9 (by omega), h.at 0 13 (by omega), h.at 0 14 (by omega), h.at 0 15 (by omega), h.at 0 17 (by omega), h.at 0 18 (by omega)⟩
theorem Sd.rw {τ τ' : St} (h : Sd τ τ') : τ' 9 0 0 = τ 9 0 0 ∧ τ' 10 0 0 = τ 10 0 0 := ⟨funext fun j => h.at 9 j (by omega), funext fun j => h.at 10 j (by omega)⟩
theorem x_fg2 {E : EV} {nL : Nat} {A : Nat → Prop} {Q : State → Prop} {J : Heap → Prop} {pc : Nat} {a0 a1 a2 : Option Value} {st : List Value} (k : VV E nL A Q J pc [a0, a1, none] st) : VV E nL A Q J pc [a0, a1, a2] st := x_lvf (lv' := [a0, a1, none]) ⟨Or.inr rfl, Or.inr rfl, Or.inl rfl, trivial⟩ k
set_option maxHeartbeats 4000000 in
set_option maxRecDepth 10000 in
theorem c_X9_digest (l : Launch) (G : GM) (τ : St) (D : Int) (hW : WOk D (wv τ)) (hD : D ≤ 900000) (hF : FOk (τ 0 0 0 1) (τ 1 0 0)) (hs0 : -1 ≤ τ 0 0 0 13 ∧ τ 0 0 0 13 < 4) (hs2 : 0 ≤ τ 0 0 0 14 ∧ τ 0 0 0 14 ≤ 900000) (hs3 : 0 ≤ τ 0 0 0 15 ∧ τ 0 0 0 15 ≤ 8) (hs4 : ∀ j, 0 ≤ j → j < 8 → 0 ≤ τ 9 0 0 j ∧ τ 9 0 0 j ≤ 1) (hpl : 0 ≤ τ 0 0 0 18 ∧ τ 0 0 0 18 ≤ 24) (hpg : ∀ k, 0 ≤ k → k < 24 → 0 ≤ τ 10 0 0 k ∧ τ 10 0 0 k ≤ 126) (hrd : 0 ≤ τ 0 0 0 0 ∧ τ 0 0 0 0 ≤ 900000) (hak : 0 ≤ τ 0 0 0 17 ∧ τ 0 0 0 17 ≤ 900000) : Ct l (YM G) yX9_digest (.code yX9_digest cX9_digest 3 (some .long)) 8 [.ref (aM G 0)] τ (fun v τ' => v = some (.long (lL (dgM (fv τ) (wv τ) (τ 0 0 0 1) (τ 0 0 0 18) (τ 0 0 0 0) (τ 0 0 0 17) (τ 0 0 0 13) (τ 0 0 0 14) (τ 0 0 0 15) (τ 9 0 0) (τ 10 0 0)))) ∧ Sd τ τ') := by
  refine Ct_of (own := RX9) [some (.ref (aM G 0)), none, none] rfl rfl (Nat.le_of_ble_eq_true rfl) rfl ?_
  intro E hE hM hl hR
  obtain ⟨hnp, hnf, hday, hpp, hff, hcc⟩ := WT_of hW
  have w00 : wv τ 0 0 = τ 0 0 0 5 := rfl
  have w01 : wv τ 0 1 = τ 0 0 0 9 := rfl
  have w02 : wv τ 0 2 = τ 0 0 0 3 := rfl
  have l6 : ∀ (n : Nat) (k : Int) (S : St), Sd τ S → S 0 0 0 42 = mixU (cnN (wv τ) (τ 0 0 0 1) (τ 0 0 0 18) (τ 0 0 0 0) (τ 0 0 0 17) (τ 0 0 0 15)) k.toNat (dg7 (fv τ) (wv τ) (τ 0 0 0 18) (τ 0 0 0 13) (τ 0 0 0 14) (τ 0 0 0 15) (τ 9 0 0) (τ 10 0 0)) → 0 ≤ k → k ≤ 10 → 10 - k = n → VV E 3 (AS (YM G)) (Qm (YM G) (fun v τ' => v = some (.long (lL (dgM (fv τ) (wv τ) (τ 0 0 0 1) (τ 0 0 0 18) (τ 0 0 0 0) (τ 0 0 0 17) (τ 0 0 0 13) (τ 0 0 0 14) (τ 0 0 0 15) (τ 9 0 0) (τ 10 0 0)))) ∧ Sd τ τ') E) (Rh (YM G) (S)) 211 [some (.ref (aM G 0)), some (.int (iN (k))), none] [] := by
    intro n
    induction n using Nat.strongRecOn with
    | _ n ih =>
    intro k S hd hv g0 g1 g2
    have hwS : wv S = wv τ := hd.wv
    have hfS : fv S = fv τ := hd.fv
    have hFS := hd.fok hF
    have hWS : WOk D (wv S) := by rw [hwS]; exact hW
    obtain ⟨s0, s1, s3, s5, s9, s13, s14, s15, s17, s18⟩ := hd.sl
    obtain ⟨r9, r10⟩ := hd.rw
    obtain ⟨hnpS, hnfS, hdayS, hppS, hffS, hccS⟩ := WT_of hWS
    
    have hb := cnN_bd (fn := S 0 0 0 1) (pn := S 0 0 0 18) (rd := S 0 0 0 0) (ak := S 0 0 0 17) (sn := S 0 0 0 15) hWS hD (by rw [s1]; exact hF.1) (by omega) (by omega) (by omega) (by omega) k
    refine x_iload_n (pc' := 212) hE dX9_digest_211 rfl rfl ?_
    refine x_bipush (pc' := 214) hE dX9_digest_212 rfl (by decide +kernel) ?_
    refine x_icmpge (tgt := 233) (pc' := 217) hE dX9_digest_214 (by decide) rfl ⟨by omega, by omega⟩ ⟨by omega, by omega⟩ (fun h1 => ?_) (fun h1 => ?_)
    · refine x_aload_n (pc' := 234) hE dX9_digest_233 rfl rfl ?_
      refine gM_42 (pc' := 237) hE hM tF_X9_279 dX9_digest_234 rfl ?_
      refine x_lret hE dX9_digest_237 ?_
      have e : k = 10 := by omega
      subst e
      refine ⟨?_, hd⟩
      rw [hv]
      rfl
    · refine x_aload_n (pc' := 218) hE dX9_digest_217 rfl rfl ?_
      refine x_aload_n (pc' := 219) hE dX9_digest_218 rfl rfl ?_
      refine x_iload_n (pc' := 220) hE dX9_digest_219 rfl rfl ?_
      refine x_cV1 (pc' := 223) hE hM (okM G) hl hR (c_X9_howMany l G _ _ (by assumption) _ ⟨by omega, by omega⟩) kX9_howMany tM_X9_274 (rcvM hM) (by decide) dX9_digest_220 rfl rfl (Nat.le_of_ble_eq_true rfl) (fun σ2 e2 => ?_)
      replace e2 := e2.symm
      subst e2
      refine x_i2l (pc' := 224) hE dX9_digest_223 rfl ⟨by omega, by omega⟩ ?_
      refine x_cV0 (pc' := 227) hE hM (okM G) hl hR (c_X9_mix l G _ _) kX9_mix tM_X9_284 (rcvM hM) (by decide) dX9_digest_224 rfl rfl (Nat.le_of_ble_eq_true rfl) (fun σ3 e3 => ?_)
      have hmσ3 : Sd τ σ3 := by rw [e3]; exact (hd).trans (Sd_up42 _ _)
      have hvσ3 := (congrArg (fun t : St => t 0 0 0 42) e3).trans (up_s _ _ _ _ _ _)
      rw [hv, hwS, s1, s18, s0, s17, s15] at hvσ3
      refine x_iinc (pc' := 230) hE dX9_digest_227 rfl rfl (by decide) rfl rfl ?_
      dsimp only [List.set]
      refine x_goto (tgt := 211) hE dX9_digest_230 (by decide) ?_
      refine ih (n - 1) (by omega) (k + 1) _ hmσ3 ?_ (by omega) (by omega) (by omega)
      rw [hvσ3, mixU_s _ g0]
  have l5 : ∀ (n : Nat) (k : Int) (S : St), Sd τ S → S 0 0 0 42 = mixU (τ 10 0 0) k.toNat (dg6 (fv τ) (wv τ) (τ 0 0 0 13) (τ 0 0 0 14) (τ 0 0 0 15) (τ 9 0 0)) → 0 ≤ k → k ≤ τ 0 0 0 18 → τ 0 0 0 18 - k = n → VV E 3 (AS (YM G)) (Qm (YM G) (fun v τ' => v = some (.long (lL (dgM (fv τ) (wv τ) (τ 0 0 0 1) (τ 0 0 0 18) (τ 0 0 0 0) (τ 0 0 0 17) (τ 0 0 0 13) (τ 0 0 0 14) (τ 0 0 0 15) (τ 9 0 0) (τ 10 0 0)))) ∧ Sd τ τ') E) (Rh (YM G) (S)) 184 [some (.ref (aM G 0)), some (.int (iN (k))), none] [] := by
    intro n
    induction n using Nat.strongRecOn with
    | _ n ih =>
    intro k S hd hv g0 g1 g2
    have hwS : wv S = wv τ := hd.wv
    have hfS : fv S = fv τ := hd.fv
    have hFS := hd.fok hF
    have hWS : WOk D (wv S) := by rw [hwS]; exact hW
    obtain ⟨s0, s1, s3, s5, s9, s13, s14, s15, s17, s18⟩ := hd.sl
    obtain ⟨r9, r10⟩ := hd.rw
    obtain ⟨hnpS, hnfS, hdayS, hppS, hffS, hccS⟩ := WT_of hWS
    
    refine x_iload_n (pc' := 185) hE dX9_digest_184 rfl rfl ?_
    refine x_aload_n (pc' := 186) hE dX9_digest_185 rfl rfl ?_
    refine gM_18 (pc' := 189) hE hM tF_X9_79 dX9_digest_186 rfl ?_
    refine x_icmpge (tgt := 209) (pc' := 192) hE dX9_digest_189 (by decide) rfl ⟨by omega, by omega⟩ ⟨by omega, by omega⟩ (fun h4 => ?_) (fun h4 => ?_)
    · refine x_iconst (pc' := 210) hE dX9_digest_209 rfl ?_
      refine x_istore_n (pc' := 211) hE dX9_digest_210 rfl (by decide) rfl rfl ?_
      dsimp only [List.set]
      have e : k = τ 0 0 0 18 := by omega
      subst e
      exact l6 10 0 S hd hv (by omega) (by omega) (by omega)
    · have q1 := hpg k (by omega) (by omega)
      have q2 : S 10 0 0 k = τ 10 0 0 k := by rw [r10]
      refine x_aload_n (pc' := 193) hE dX9_digest_192 rfl rfl ?_
      refine x_aload_n (pc' := 194) hE dX9_digest_193 rfl rfl ?_
      refine gM_19 (pc' := 197) hE hM tF_X9_41 dX9_digest_194 rfl ?_
      refine x_iload_n (pc' := 198) hE dX9_digest_197 rfl rfl ?_
      refine aM_10 (pc' := 199) hE hM (by omega) (by omega) dX9_digest_198 rfl ?_
      refine x_i2l (pc' := 200) hE dX9_digest_199 rfl ⟨by omega, by omega⟩ ?_
      refine x_cV0 (pc' := 203) hE hM (okM G) hl hR (c_X9_mix l G _ _) kX9_mix tM_X9_284 (rcvM hM) (by decide) dX9_digest_200 rfl rfl (Nat.le_of_ble_eq_true rfl) (fun σ5 e5 => ?_)
      have hmσ5 : Sd τ σ5 := by rw [e5]; exact (hd).trans (Sd_up42 _ _)
      have hvσ5 := (congrArg (fun t : St => t 0 0 0 42) e5).trans (up_s _ _ _ _ _ _)
      rw [hv, r10] at hvσ5
      refine x_iinc (pc' := 206) hE dX9_digest_203 rfl rfl (by decide) rfl rfl ?_
      dsimp only [List.set]
      refine x_goto (tgt := 184) hE dX9_digest_206 (by decide) ?_
      refine ih (n - 1) (by omega) (k + 1) _ hmσ5 ?_ (by omega) (by omega) (by omega)
      rw [hvσ5, mixU_s _ g0]
  have l4 : ∀ (n : Nat) (k : Int) (S : St), Sd τ S → S 0 0 0 42 = dgF (fv τ) (wv τ) k.toNat (dg3 (fv τ) (wv τ)) → 0 ≤ k → k ≤ wv τ 0 1 → wv τ 0 1 - k = n → VV E 3 (AS (YM G)) (Qm (YM G) (fun v τ' => v = some (.long (lL (dgM (fv τ) (wv τ) (τ 0 0 0 1) (τ 0 0 0 18) (τ 0 0 0 0) (τ 0 0 0 17) (τ 0 0 0 13) (τ 0 0 0 14) (τ 0 0 0 15) (τ 9 0 0) (τ 10 0 0)))) ∧ Sd τ τ') E) (Rh (YM G) (S)) 124 [some (.ref (aM G 0)), some (.int (iN (k))), none] [] := by
    intro n
    induction n using Nat.strongRecOn with
    | _ n ih =>
    intro k S hd hv g0 g1 g2
    have hwS : wv S = wv τ := hd.wv
    have hfS : fv S = fv τ := hd.fv
    have hFS := hd.fok hF
    have hWS : WOk D (wv S) := by rw [hwS]; exact hW
    obtain ⟨s0, s1, s3, s5, s9, s13, s14, s15, s17, s18⟩ := hd.sl
    obtain ⟨r9, r10⟩ := hd.rw
    obtain ⟨hnpS, hnfS, hdayS, hppS, hffS, hccS⟩ := WT_of hWS
    
    have q13 := hppS
    have el := eatN_bd hWS
    have el2 := eatN_bd (dN_ok (F := fv S) hWS (30 : Int).toNat)
    refine x_iload_n (pc' := 125) hE dX9_digest_124 rfl rfl ?_
    refine x_aload_n (pc' := 126) hE dX9_digest_125 rfl rfl ?_
    refine gM_9 (pc' := 129) hE hM tF_X9_133 dX9_digest_126 rfl ?_
    refine x_icmpge (tgt := 143) (pc' := 132) hE dX9_digest_129 (by decide) rfl ⟨by omega, by omega⟩ ⟨by omega, by omega⟩ (fun h6 => ?_) (fun h6 => ?_)
    · refine x_aload_n (pc' := 144) hE dX9_digest_143 rfl rfl ?_
      refine x_aload_n (pc' := 145) hE dX9_digest_144 rfl rfl ?_
      refine x_bipush (pc' := 147) hE dX9_digest_145 rfl (by decide +kernel) ?_
      refine x_cV1 (pc' := 150) hE hM (okM G) hl hR (c_X9_lossNow l G _ _ (by assumption) (by omega) (by assumption) _ (by omega) (by omega)) kX9_lossNow tM_X9_189 (rcvM hM) (by decide) dX9_digest_147 rfl rfl (Nat.le_of_ble_eq_true rfl) (fun σ7 e7 => ?_)
      have hq := hd.trans e7.sd
      have h42 := e7.at 0 42 (by omega)
      refine x_i2l (pc' := 151) hE dX9_digest_150 rfl ⟨by omega, by omega⟩ ?_
      refine x_cV0 (pc' := 154) hE hM (okM G) hl hR (c_X9_mix l G _ _) kX9_mix tM_X9_284 (rcvM hM) (by decide) dX9_digest_151 rfl rfl (Nat.le_of_ble_eq_true rfl) (fun σ8 e8 => ?_)
      have ho : Sd τ σ8 := by rw [e8]; exact hq.trans (Sd_up42 _ _)
      have ek : k = wv τ 0 1 := by omega
      have hvo : σ8 0 0 0 42 = dg5 (fv τ) (wv τ) := by rw [e8, up_s, h42, hv, hwS, hfS, dg5, dg4_e, ek]; rfl
      generalize σ8 = U at *
      have hwU : wv U = wv τ := ho.wv
      have hfU : fv U = fv τ := ho.fv
      have hFU := ho.fok hF
      have hWU : WOk D (wv U) := by rw [hwU]; exact hW
      obtain ⟨t0, t1, t3, t5, t9, t13, t14, t15, t17, t18⟩ := ho.sl
      obtain ⟨u9, u10⟩ := ho.rw
      obtain ⟨hnpU, hnfU, hdayU, hppU, hffU, hccU⟩ := WT_of hWU
      refine x_aload_n (pc' := 155) hE dX9_digest_154 rfl rfl ?_
      refine gM_13 (pc' := 158) hE hM tF_X9_34 dX9_digest_155 rfl ?_
      refine x_iconst (pc' := 159) hE dX9_digest_158 rfl ?_
      refine x_icmpeq (tgt := 182) (pc' := 162) hE dX9_digest_159 (by decide) rfl ⟨by omega, by omega⟩ ⟨by omega, by omega⟩ (fun h9 => ?_) (fun h9 => ?_)
      · refine x_iconst (pc' := 183) hE dX9_digest_182 rfl ?_
        refine x_istore_n (pc' := 184) hE dX9_digest_183 rfl (by decide) rfl rfl ?_
        dsimp only [List.set]
        exact l5 (τ 0 0 0 18).toNat 0 U ho (by rw [hvo, dg6, if_pos (by omega)]; rfl) (by omega) (by omega) (by omega)
      · have hb0 := fitW_bd (fv U) (U 2 0 0 (U 4 0 0 (U 0 0 0 13))) (U 5 0 0 (U 0 0 0 13)) (U 0 0 0 14) (U 9 0 0) (U 0 0 0 15).toNat 0
        refine x_aload_n (pc' := 163) hE dX9_digest_162 rfl rfl ?_
        refine x_aload_n (pc' := 164) hE dX9_digest_163 rfl rfl ?_
        refine x_iconst (pc' := 165) hE dX9_digest_164 rfl ?_
        refine x_cV1 (pc' := 168) hE hM (okM G) hl hR (c_X9_fitsNow l G _ _ (by assumption) (by omega) (by assumption) (by omega) (by omega) (by omega) (by rw [u9]; exact hs4) _ (by omega) (by omega)) kX9_fitsNow tM_X9_229 (rcvM hM) (by decide) dX9_digest_165 rfl rfl (Nat.le_of_ble_eq_true rfl) (fun σ10 e10 => ?_)
        replace e10 := e10.symm
        subst e10
        refine x_i2l (pc' := 169) hE dX9_digest_168 rfl ⟨by omega, by omega⟩ ?_
        refine x_cV0 (pc' := 172) hE hM (okM G) hl hR (c_X9_mix l G _ _) kX9_mix tM_X9_284 (rcvM hM) (by decide) dX9_digest_169 rfl rfl (Nat.le_of_ble_eq_true rfl) (fun σ11 e11 => ?_)
        have hp : Sd τ σ11 := by rw [e11]; exact ho.trans (Sd_up42 _ _)
        have e2 : U 2 0 0 (U 4 0 0 (U 0 0 0 13)) = wv τ 7 (wv τ 2 (τ 0 0 0 13)) := by rw [t13, ← hwU]; rfl
        have e5 : U 5 0 0 (U 0 0 0 13) = wv τ 3 (τ 0 0 0 13) := by rw [t13, ← hwU]; rfl
        have hvp : σ11 0 0 0 42 = 31 * dg5 (fv τ) (wv τ) + fitW (fv τ) (wv τ 7 (wv τ 2 (τ 0 0 0 13))) (wv τ 3 (τ 0 0 0 13)) (τ 0 0 0 14) (τ 9 0 0) (τ 0 0 0 15).toNat 0 := by rw [e11, up_s, hvo, e2, e5, hfU, t14, t15, u9]
        generalize σ11 = P at *
        have hwP : wv P = wv τ := hp.wv
        have hfP : fv P = fv τ := hp.fv
        have hFP := hp.fok hF
        have hWP : WOk D (wv P) := by rw [hwP]; exact hW
        obtain ⟨v0, v1, v3, v5, v9_, v13, v14, v15, v17, v18⟩ := hp.sl
        obtain ⟨v9, v10⟩ := hp.rw
        obtain ⟨hnpP, hnfP, hdayP, hppP, hffP, hccP⟩ := WT_of hWP
        have hb1 := fitW_bd (fv P) (P 2 0 0 (P 4 0 0 (P 0 0 0 13))) (P 5 0 0 (P 0 0 0 13)) (P 0 0 0 14) (P 9 0 0) (P 0 0 0 15).toNat 1
        refine x_aload_n (pc' := 173) hE dX9_digest_172 rfl rfl ?_
        refine x_aload_n (pc' := 174) hE dX9_digest_173 rfl rfl ?_
        refine x_iconst (pc' := 175) hE dX9_digest_174 rfl ?_
        refine x_cV1 (pc' := 178) hE hM (okM G) hl hR (c_X9_fitsNow l G _ _ (by assumption) (by omega) (by assumption) (by omega) (by omega) (by omega) (by rw [v9]; exact hs4) _ (by omega) (by omega)) kX9_fitsNow tM_X9_229 (rcvM hM) (by decide) dX9_digest_175 rfl rfl (Nat.le_of_ble_eq_true rfl) (fun σ12 e12 => ?_)
        replace e12 := e12.symm
        subst e12
        refine x_i2l (pc' := 179) hE dX9_digest_178 rfl ⟨by omega, by omega⟩ ?_
        refine x_cV0 (pc' := 182) hE hM (okM G) hl hR (c_X9_mix l G _ _) kX9_mix tM_X9_284 (rcvM hM) (by decide) dX9_digest_179 rfl rfl (Nat.le_of_ble_eq_true rfl) (fun σ13 e13 => ?_)
        have hz : Sd τ σ13 := by rw [e13]; exact hp.trans (Sd_up42 _ _)
        have f2 : P 2 0 0 (P 4 0 0 (P 0 0 0 13)) = wv τ 7 (wv τ 2 (τ 0 0 0 13)) := by rw [v13, ← hwP]; rfl
        have f5 : P 5 0 0 (P 0 0 0 13) = wv τ 3 (τ 0 0 0 13) := by rw [v13, ← hwP]; rfl
        have hvz : σ13 0 0 0 42 = dg6 (fv τ) (wv τ) (τ 0 0 0 13) (τ 0 0 0 14) (τ 0 0 0 15) (τ 9 0 0) := by rw [e13, up_s, hvp, f2, f5, hfP, v14, v15, v9, dg6, if_neg (by omega)]
        refine x_iconst (pc' := 183) hE dX9_digest_182 rfl ?_
        refine x_istore_n (pc' := 184) hE dX9_digest_183 rfl (by decide) rfl rfl ?_
        dsimp only [List.set]
        exact l5 (τ 0 0 0 18).toNat 0 σ13 hz hvz (by omega) (by omega) (by omega)
    · refine x_aload_n (pc' := 133) hE dX9_digest_132 rfl rfl ?_
      refine x_iload_n (pc' := 134) hE dX9_digest_133 rfl rfl ?_
      refine x_cV0 (pc' := 137) hE hM (okM G) hl hR (c_X9_mixFlock l G _ _ (by assumption) (by omega) (by assumption) _ (by omega) (by omega)) kX9_mixFlock tM_X9_288 (rcvM hM) (by decide) dX9_digest_134 rfl rfl (Nat.le_of_ble_eq_true rfl) (fun σ14 e14 => ?_)
      obtain ⟨hnσ14, hv0σ14⟩ := e14
      have hmσ14 := hd.trans hnσ14
      have hvσ14 := hv0σ14
      rw [hv, hwS, hfS] at hvσ14
      refine x_iinc (pc' := 140) hE dX9_digest_137 rfl rfl (by decide) rfl rfl ?_
      dsimp only [List.set]
      refine x_goto (tgt := 124) hE dX9_digest_140 (by decide) ?_
      refine ih (n - 1) (by omega) (k + 1) _ hmσ14 ?_ (by omega) (by omega) (by omega)
      rw [hvσ14, dgF_s _ _ g0]
  have l3 : ∀ (n : Nat) (k : Int) (S : St), Sd τ S → S 0 0 0 42 = dgP (fv τ) (wv τ) k.toNat (dg2 (fv τ) (wv τ)) → 0 ≤ k → k ≤ wv τ 0 0 → wv τ 0 0 - k = n → VV E 3 (AS (YM G)) (Qm (YM G) (fun v τ' => v = some (.long (lL (dgM (fv τ) (wv τ) (τ 0 0 0 1) (τ 0 0 0 18) (τ 0 0 0 0) (τ 0 0 0 17) (τ 0 0 0 13) (τ 0 0 0 14) (τ 0 0 0 15) (τ 9 0 0) (τ 10 0 0)))) ∧ Sd τ τ') E) (Rh (YM G) (S)) 61 [some (.ref (aM G 0)), some (.int (iN (k))), none] [] := by
    intro n
    induction n using Nat.strongRecOn with
    | _ n ih =>
    intro k S hd hv g0 g1 g2
    have hwS : wv S = wv τ := hd.wv
    have hfS : fv S = fv τ := hd.fv
    have hFS := hd.fok hF
    have hWS : WOk D (wv S) := by rw [hwS]; exact hW
    obtain ⟨s0, s1, s3, s5, s9, s13, s14, s15, s17, s18⟩ := hd.sl
    obtain ⟨r9, r10⟩ := hd.rw
    obtain ⟨hnpS, hnfS, hdayS, hppS, hffS, hccS⟩ := WT_of hWS
    
    have inner : ∀ (n2 : Nat) (j : Int) (U : St), Sd τ U → U 0 0 0 42 = mixU (pkN (fv τ) (wv τ) k) j.toNat (dgP (fv τ) (wv τ) k.toNat (dg2 (fv τ) (wv τ))) → k < wv τ 0 0 → 0 ≤ j → j ≤ 7 → 7 - j = n2 → VV E 3 (AS (YM G)) (Qm (YM G) (fun v τ' => v = some (.long (lL (dgM (fv τ) (wv τ) (τ 0 0 0 1) (τ 0 0 0 18) (τ 0 0 0 0) (τ 0 0 0 17) (τ 0 0 0 13) (τ 0 0 0 14) (τ 0 0 0 15) (τ 9 0 0) (τ 10 0 0)))) ∧ Sd τ τ') E) (Rh (YM G) (U)) 71 [some (.ref (aM G 0)), some (.int (iN (k))), some (.int (iN j))] [] := by
      intro n2
      induction n2 using Nat.strongRecOn with
      | _ n2 ih2 =>
      intro j U ho hvo kk j0 j1 j2
      have hwU : wv U = wv τ := ho.wv
      have hfU : fv U = fv τ := ho.fv
      have hFU := ho.fok hF
      have hWU : WOk D (wv U) := by rw [hwU]; exact hW
      obtain ⟨hnpU, hnfU, hdayU, hppU, hffU, hccU⟩ := WT_of hWU
      have hb := pkN_bd (F := fv U) hWU (p := k) (by omega) (by omega) j
      have hc0 := nailN_bd (fv U) (U 3 0 0 k) (U 5 0 0 k) (U 0 0 0 3) 0
      refine x_iload_n (pc' := 72) hE dX9_digest_71 rfl rfl ?_
      refine x_bipush (pc' := 74) hE dX9_digest_72 rfl (by decide +kernel) ?_
      refine x_icmpge (tgt := 94) (pc' := 77) hE dX9_digest_74 (by decide) rfl ⟨by omega, by omega⟩ ⟨by omega, by omega⟩ (fun h15 => ?_) (fun h15 => ?_)
      · refine x_aload_n (pc' := 95) hE dX9_digest_94 rfl rfl ?_
        refine x_aload_n (pc' := 96) hE dX9_digest_95 rfl rfl ?_
        refine x_iload_n (pc' := 97) hE dX9_digest_96 rfl rfl ?_
        refine x_iconst (pc' := 98) hE dX9_digest_97 rfl ?_
        refine x_cV1 (pc' := 101) hE hM (okM G) hl hR (c_X9_nailNow l G _ _ (by assumption) (by omega) (by assumption) _ _ (by omega) (by omega) (by omega) (by omega)) kX9_nailNow tM_X9_217 (rcvM hM) (by decide) dX9_digest_98 rfl rfl (Nat.le_of_ble_eq_true rfl) (fun σ16 e16 => ?_)
        replace e16 := e16.symm
        subst e16
        refine x_i2l (pc' := 102) hE dX9_digest_101 rfl ⟨by omega, by omega⟩ ?_
        refine x_cV0 (pc' := 105) hE hM (okM G) hl hR (c_X9_mix l G _ _) kX9_mix tM_X9_284 (rcvM hM) (by decide) dX9_digest_102 rfl rfl (Nat.le_of_ble_eq_true rfl) (fun σ17 e17 => ?_)
        have hp : Sd τ σ17 := by rw [e17]; exact ho.trans (Sd_up42 _ _)
        have e7 : j = 7 := by omega
        have n0 : nailN (fv U) (U 3 0 0 k) (U 5 0 0 k) (U 0 0 0 3) 0 = nailN (fv τ) (wv τ 1 k) (wv τ 3 k) (wv τ 0 2) 0 := by rw [← hwU, hfU]; rfl
        have hvp : σ17 0 0 0 42 = 31 * mixU (pkN (fv τ) (wv τ) k) 7 (dgP (fv τ) (wv τ) k.toNat (dg2 (fv τ) (wv τ))) + nailN (fv τ) (wv τ 1 k) (wv τ 3 k) (wv τ 0 2) 0 := by rw [e17, up_s, hvo, n0, e7]; rfl
        generalize σ17 = P at *
        have hwP : wv P = wv τ := hp.wv
        have hfP : fv P = fv τ := hp.fv
        have hFP := hp.fok hF
        have hWP : WOk D (wv P) := by rw [hwP]; exact hW
        obtain ⟨hnpP, hnfP, hdayP, hppP, hffP, hccP⟩ := WT_of hWP
        have hc1 := nailN_bd (fv P) (P 3 0 0 k) (P 5 0 0 k) (P 0 0 0 3) 1
        refine x_aload_n (pc' := 106) hE dX9_digest_105 rfl rfl ?_
        refine x_aload_n (pc' := 107) hE dX9_digest_106 rfl rfl ?_
        refine x_iload_n (pc' := 108) hE dX9_digest_107 rfl rfl ?_
        refine x_iconst (pc' := 109) hE dX9_digest_108 rfl ?_
        refine x_cV1 (pc' := 112) hE hM (okM G) hl hR (c_X9_nailNow l G _ _ (by assumption) (by omega) (by assumption) _ _ (by omega) (by omega) (by omega) (by omega)) kX9_nailNow tM_X9_217 (rcvM hM) (by decide) dX9_digest_109 rfl rfl (Nat.le_of_ble_eq_true rfl) (fun σ18 e18 => ?_)
        replace e18 := e18.symm
        subst e18
        refine x_i2l (pc' := 113) hE dX9_digest_112 rfl ⟨by omega, by omega⟩ ?_
        refine x_cV0 (pc' := 116) hE hM (okM G) hl hR (c_X9_mix l G _ _) kX9_mix tM_X9_284 (rcvM hM) (by decide) dX9_digest_113 rfl rfl (Nat.le_of_ble_eq_true rfl) (fun σ19 e19 => ?_)
        have hz : Sd τ σ19 := by rw [e19]; exact hp.trans (Sd_up42 _ _)
        have n1 : nailN (fv P) (P 3 0 0 k) (P 5 0 0 k) (P 0 0 0 3) 1 = nailN (fv τ) (wv τ 1 k) (wv τ 3 k) (wv τ 0 2) 1 := by rw [← hwP, hfP]; rfl
        have hvz := (congrArg (fun t : St => t 0 0 0 42) e19).trans (up_s _ _ _ _ _ _)
        rw [hvp, n1] at hvz
        refine x_iinc (pc' := 119) hE dX9_digest_116 rfl rfl (by decide) rfl rfl ?_
        dsimp only [List.set]
        refine x_goto (tgt := 61) hE dX9_digest_119 (by decide) ?_
        refine x_fg2 ?_
        refine ih (n - 1) (by omega) (k + 1) _ hz ?_ (by omega) (by omega) (by omega)
        rw [hvz, dgP_s _ _ g0]
      · refine x_aload_n (pc' := 78) hE dX9_digest_77 rfl rfl ?_
        refine x_aload_n (pc' := 79) hE dX9_digest_78 rfl rfl ?_
        refine x_iload_n (pc' := 80) hE dX9_digest_79 rfl rfl ?_
        refine x_iload_n (pc' := 81) hE dX9_digest_80 rfl rfl ?_
        refine x_cV1 (pc' := 84) hE hM (okM G) hl hR (c_X9_packNow l G _ _ (by assumption) (by omega) (by assumption) _ _ (by omega) (by omega) (by omega) (by omega)) kX9_packNow tM_X9_158 (rcvM hM) (by decide) dX9_digest_81 rfl rfl (Nat.le_of_ble_eq_true rfl) (fun σ20 e20 => ?_)
        replace e20 := e20.symm
        subst e20
        refine x_i2l (pc' := 85) hE dX9_digest_84 rfl ⟨by omega, by omega⟩ ?_
        refine x_cV0 (pc' := 88) hE hM (okM G) hl hR (c_X9_mix l G _ _) kX9_mix tM_X9_284 (rcvM hM) (by decide) dX9_digest_85 rfl rfl (Nat.le_of_ble_eq_true rfl) (fun σ21 e21 => ?_)
        have hmσ21 : Sd τ σ21 := by rw [e21]; exact (ho).trans (Sd_up42 _ _)
        have hvσ21 := (congrArg (fun t : St => t 0 0 0 42) e21).trans (up_s _ _ _ _ _ _)
        rw [hvo, hfU, hwU] at hvσ21
        refine x_iinc (pc' := 91) hE dX9_digest_88 rfl rfl (by decide) rfl rfl ?_
        dsimp only [List.set]
        refine x_goto (tgt := 71) hE dX9_digest_91 (by decide) ?_
        refine ih2 (n2 - 1) (by omega) (j + 1) _ hmσ21 ?_ kk (by omega) (by omega) (by omega)
        rw [hvσ21, mixU_s _ j0]
    refine x_iload_n (pc' := 62) hE dX9_digest_61 rfl rfl ?_
    refine x_aload_n (pc' := 63) hE dX9_digest_62 rfl rfl ?_
    refine gM_5 (pc' := 66) hE hM tF_X9_122 dX9_digest_63 rfl ?_
    refine x_icmpge (tgt := 122) (pc' := 69) hE dX9_digest_66 (by decide) rfl ⟨by omega, by omega⟩ ⟨by omega, by omega⟩ (fun h22 => ?_) (fun h22 => ?_)
    · refine x_iconst (pc' := 123) hE dX9_digest_122 rfl ?_
      refine x_istore_n (pc' := 124) hE dX9_digest_123 rfl (by decide) rfl rfl ?_
      dsimp only [List.set]
      have e : k = wv τ 0 0 := by omega
      subst e
      exact l4 (wv τ 0 1).toNat 0 S hd hv (by omega) (by omega) (by omega)
    · refine x_iconst (pc' := 70) hE dX9_digest_69 rfl ?_
      refine x_istore_n (pc' := 71) hE dX9_digest_70 rfl (by decide) rfl rfl ?_
      dsimp only [List.set]
      exact inner 7 0 S hd hv (by omega) (by omega) (by omega) (by omega)
  have l2 : ∀ (n : Nat) (k : Int) (S : St), Sd τ S → S 0 0 0 42 = mixU (fun c => wv τ 7 c) k.toNat (dg1 (fv τ) (wv τ)) → 0 ≤ k → k ≤ 8 → 8 - k = n → VV E 3 (AS (YM G)) (Qm (YM G) (fun v τ' => v = some (.long (lL (dgM (fv τ) (wv τ) (τ 0 0 0 1) (τ 0 0 0 18) (τ 0 0 0 0) (τ 0 0 0 17) (τ 0 0 0 13) (τ 0 0 0 14) (τ 0 0 0 15) (τ 9 0 0) (τ 10 0 0)))) ∧ Sd τ τ') E) (Rh (YM G) (S)) 36 [some (.ref (aM G 0)), some (.int (iN (k))), none] [] := by
    intro n
    induction n using Nat.strongRecOn with
    | _ n ih =>
    intro k S hd hv g0 g1 g2
    have hwS : wv S = wv τ := hd.wv
    have hfS : fv S = fv τ := hd.fv
    have hFS := hd.fok hF
    have hWS : WOk D (wv S) := by rw [hwS]; exact hW
    obtain ⟨s0, s1, s3, s5, s9, s13, s14, s15, s17, s18⟩ := hd.sl
    obtain ⟨r9, r10⟩ := hd.rw
    obtain ⟨hnpS, hnfS, hdayS, hppS, hffS, hccS⟩ := WT_of hWS
    
    refine x_iload_n (pc' := 37) hE dX9_digest_36 rfl rfl ?_
    refine x_bipush (pc' := 39) hE dX9_digest_37 rfl (by decide +kernel) ?_
    refine x_icmpge (tgt := 59) (pc' := 42) hE dX9_digest_39 (by decide) rfl ⟨by omega, by omega⟩ ⟨by omega, by omega⟩ (fun h23 => ?_) (fun h23 => ?_)
    · refine x_iconst (pc' := 60) hE dX9_digest_59 rfl ?_
      refine x_istore_n (pc' := 61) hE dX9_digest_60 rfl (by decide) rfl rfl ?_
      dsimp only [List.set]
      have e : k = 8 := by omega
      subst e
      exact l3 (wv τ 0 0).toNat 0 S hd hv (by omega) (by omega) (by omega)
    · have q1 := hccS k (by omega) (by omega)
      have q2 : S 2 0 0 k = wv τ 7 k := by rw [← hwS]; rfl
      refine x_aload_n (pc' := 43) hE dX9_digest_42 rfl rfl ?_
      refine x_aload_n (pc' := 44) hE dX9_digest_43 rfl rfl ?_
      refine gM_4 (pc' := 47) hE hM tF_X9_13 dX9_digest_44 rfl ?_
      refine x_iload_n (pc' := 48) hE dX9_digest_47 rfl rfl ?_
      refine aM_2 (pc' := 49) hE hM (by omega) (by omega) dX9_digest_48 rfl ?_
      refine x_i2l (pc' := 50) hE dX9_digest_49 rfl ⟨by omega, by omega⟩ ?_
      refine x_cV0 (pc' := 53) hE hM (okM G) hl hR (c_X9_mix l G _ _) kX9_mix tM_X9_284 (rcvM hM) (by decide) dX9_digest_50 rfl rfl (Nat.le_of_ble_eq_true rfl) (fun σ24 e24 => ?_)
      have hmσ24 : Sd τ σ24 := by rw [e24]; exact (hd).trans (Sd_up42 _ _)
      have hvσ24 := (congrArg (fun t : St => t 0 0 0 42) e24).trans (up_s _ _ _ _ _ _)
      rw [hv, q2] at hvσ24
      refine x_iinc (pc' := 56) hE dX9_digest_53 rfl rfl (by decide) rfl rfl ?_
      dsimp only [List.set]
      refine x_goto (tgt := 36) hE dX9_digest_56 (by decide) ?_
      refine ih (n - 1) (by omega) (k + 1) _ hmσ24 ?_ (by omega) (by omega) (by omega)
      rw [hvσ24, mixU_s _ g0]
  have l1 : ∀ (n : Nat) (k : Int) (S : St), Sd τ S → S 0 0 0 42 = mixU (dyN (fv τ) (wv τ 0 2)) k.toNat 743 → 0 ≤ k → k ≤ 4 → 4 - k = n → VV E 3 (AS (YM G)) (Qm (YM G) (fun v τ' => v = some (.long (lL (dgM (fv τ) (wv τ) (τ 0 0 0 1) (τ 0 0 0 18) (τ 0 0 0 0) (τ 0 0 0 17) (τ 0 0 0 13) (τ 0 0 0 14) (τ 0 0 0 15) (τ 9 0 0) (τ 10 0 0)))) ∧ Sd τ τ') E) (Rh (YM G) (S)) 9 [some (.ref (aM G 0)), some (.int (iN (k))), none] [] := by
    intro n
    induction n using Nat.strongRecOn with
    | _ n ih =>
    intro k S hd hv g0 g1 g2
    have hwS : wv S = wv τ := hd.wv
    have hfS : fv S = fv τ := hd.fv
    have hFS := hd.fok hF
    have hWS : WOk D (wv S) := by rw [hwS]; exact hW
    obtain ⟨s0, s1, s3, s5, s9, s13, s14, s15, s17, s18⟩ := hd.sl
    obtain ⟨r9, r10⟩ := hd.rw
    obtain ⟨hnpS, hnfS, hdayS, hppS, hffS, hccS⟩ := WT_of hWS
    
    have hb := dyN_bd (fv S) (z := S 0 0 0 3) (by omega) k
    have q2 : S 0 0 0 3 = wv τ 0 2 := by rw [← hwS]; rfl
    refine x_iload_n (pc' := 10) hE dX9_digest_9 rfl rfl ?_
    refine x_iconst (pc' := 11) hE dX9_digest_10 rfl ?_
    refine x_icmpge (tgt := 34) (pc' := 14) hE dX9_digest_11 (by decide) rfl ⟨by omega, by omega⟩ ⟨by omega, by omega⟩ (fun h25 => ?_) (fun h25 => ?_)
    · refine x_iconst (pc' := 35) hE dX9_digest_34 rfl ?_
      refine x_istore_n (pc' := 36) hE dX9_digest_35 rfl (by decide) rfl rfl ?_
      dsimp only [List.set]
      have e : k = 4 := by omega
      subst e
      exact l2 8 0 S hd hv (by omega) (by omega) (by omega)
    · refine x_aload_n (pc' := 15) hE dX9_digest_14 rfl rfl ?_
      refine x_aload_n (pc' := 16) hE dX9_digest_15 rfl rfl ?_
      refine x_aload_n (pc' := 17) hE dX9_digest_16 rfl rfl ?_
      refine gM_3 (pc' := 20) hE hM tF_X9_146 dX9_digest_17 rfl ?_
      refine x_iload_n (pc' := 21) hE dX9_digest_20 rfl rfl ?_
      refine x_cV1 (pc' := 24) hE hM (okM G) hl hR (c_X9_dayTold l G _ _ _ (by assumption) (by omega) (by omega) (by omega) (by omega)) kX9_dayTold tM_X9_116 (rcvM hM) (by decide) dX9_digest_21 rfl rfl (Nat.le_of_ble_eq_true rfl) (fun σ26 e26 => ?_)
      replace e26 := e26.symm
      subst e26
      refine x_i2l (pc' := 25) hE dX9_digest_24 rfl ⟨by omega, by omega⟩ ?_
      refine x_cV0 (pc' := 28) hE hM (okM G) hl hR (c_X9_mix l G _ (dyN (fv S) (S 0 0 0 3) k)) kX9_mix tM_X9_284 (rcvM hM) (by decide) dX9_digest_25 rfl rfl (Nat.le_of_ble_eq_true rfl) (fun σ27 e27 => ?_)
      have hmσ27 : Sd τ σ27 := by rw [e27]; exact (hd).trans (Sd_up42 _ _)
      have hvσ27 := (congrArg (fun t : St => t 0 0 0 42) e27).trans (up_s _ _ _ _ _ _)
      rw [hv, hfS, q2] at hvσ27
      refine x_iinc (pc' := 31) hE dX9_digest_28 rfl rfl (by decide) rfl rfl ?_
      dsimp only [List.set]
      refine x_goto (tgt := 9) hE dX9_digest_31 (by decide) ?_
      refine ih (n - 1) (by omega) (k + 1) _ hmσ27 ?_ (by omega) (by omega) (by omega)
      rw [hvσ27, mixU_s _ g0]
  refine x_aload_n (pc' := 1) hE dX9_digest_0 rfl rfl ?_
  refine x_ldc2 (pc' := 4) hE dX9_digest_1 rfl tV_X9_282 ?_
  refine x_st (st' := [.long (lL 743), .ref (aM G 0)]) (by rw [show (743 : Int64) = lL 743 by decide +kernel]) ?_
  refine pM_42 (pc' := 7) hE hM tF_X9_279 dX9_digest_4 rfl ?_
  refine x_iconst (pc' := 8) hE dX9_digest_7 rfl ?_
  refine x_istore_n (pc' := 9) hE dX9_digest_8 rfl (by decide) rfl rfl ?_
  dsimp only [List.set]
  exact l1 4 0 _ (Sd_up42 τ 743) (up_s _ _ _ _ _ _) (by omega) (by omega) (by omega)
