theorem preyT (τ : St) (F : Int → Bool) (p d : Int) : prey F (wv τ) p d = if fsB F (τ 3 0 0 p) (τ 2 0 0 (τ 4 0 0 p)) (τ 5 0 0 p) d then -1
  else if pIn (wv τ) (τ 4 0 0 p) (rdB (τ 3 0 0 p) (τ 2 0 0 (τ 4 0 0 p)) (τ 5 0 0 p) d % 30 % 10) ≠ -1 then pIn (wv τ) (τ 4 0 0 p) (rdB (τ 3 0 0 p) (τ 2 0 0 (τ 4 0 0 p)) (τ 5 0 0 p) d % 30 % 10)
  else if pIn (wv τ) (τ 4 0 0 p - 1) (rdB (τ 3 0 0 p) (τ 2 0 0 (τ 4 0 0 p)) (τ 5 0 0 p) d % 30 % 10) ≠ -1 then pIn (wv τ) (τ 4 0 0 p - 1) (rdB (τ 3 0 0 p) (τ 2 0 0 (τ 4 0 0 p)) (τ 5 0 0 p) d % 30 % 10)
  else pIn (wv τ) (τ 4 0 0 p + 1) (rdB (τ 3 0 0 p) (τ 2 0 0 (τ 4 0 0 p)) (τ 5 0 0 p) d % 30 % 10) := rfl
theorem pInT (τ : St) (c nm : Int) : pIn (wv τ) c nm = lst (fun f => decide (τ 7 0 0 f = c) && decide (τ 8 0 0 f = -1) && decide (τ 6 0 0 f ≠ nm)) (τ 0 0 0 9).toNat 0 := rfl
theorem lst_s (p : Int → Bool) (n : Nat) (i : Int) : lst p (n + 1) i = if p i then i else lst p n (i + 1) := rfl
theorem mk5_c {p q : Int → Bool} (h : ∀ f : Int, 0 ≤ f → f < 5 → p f = q f) : mk5 p = mk5 q := by
  unfold mk5
  rw [h 0 (by decide) (by decide), h 1 (by decide) (by decide), h 2 (by decide) (by decide), h 3 (by decide) (by decide), h 4 (by decide) (by decide)]
theorem mk5_bd (p : Int → Bool) : 0 ≤ mk5 p ∧ mk5 p ≤ 31 := by
  unfold mk5
  repeat' split
  all_goals omega
theorem or5b (b0 b1 b2 b3 b4 : Bool) {f : Int} (h0 : 0 ≤ f) (h1 : f < 5) : iN ((if b0 = true then 1 else 0) + (if b1 = true then 2 else 0) + (if b2 = true then 4 else 0) + (if b3 = true then 8 else 0) + (if b4 = true then 16 else 0)) ||| (iN 1 <<< (iN f &&& 31)) = iN ((if (b0 || decide (0 = f)) = true then 1 else 0) + (if (b1 || decide (1 = f)) = true then 2 else 0) + (if (b2 || decide (2 = f)) = true then 4 else 0) + (if (b3 || decide (3 = f)) = true then 8 else 0) + (if (b4 || decide (4 = f)) = true then 16 else 0)) := by
  refine five (P := fun f => iN ((if b0 = true then 1 else 0) + (if b1 = true then 2 else 0) + (if b2 = true then 4 else 0) + (if b3 = true then 8 else 0) + (if b4 = true then 16 else 0)) ||| (iN 1 <<< (iN f &&& 31)) = iN ((if (b0 || decide (0 = f)) = true then 1 else 0) + (if (b1 || decide (1 = f)) = true then 2 else 0) + (if (b2 || decide (2 = f)) = true then 4 else 0) + (if (b3 || decide (3 = f)) = true then 8 else 0) + (if (b4 || decide (4 = f)) = true then 16 else 0))) h0 h1 ?_ ?_ ?_ ?_ ?_
  all_goals (revert b0 b1 b2 b3 b4; decide +kernel)
theorem or5 (p : Int → Bool) {f : Int} (h0 : 0 ≤ f) (h1 : f < 5) : iN (mk5 p) ||| (iN 1 <<< (iN f &&& 31)) = iN (mk5 (fun g => p g || decide (g = f))) := or5b (p 0) (p 1) (p 2) (p 3) (p 4) h0 h1
theorem goA_keep (F : Int → Bool) (W : Wd) (f : Int) (h : W 6 f ≠ -1) : ∀ n : Nat, goA F W n 6 f = W 6 f
  | 0 => rfl
  | n + 1 => by
    have ih := goA_keep F W f h n
    rw [goA]
    split
    · exact ih
    · rename_i hp
      by_cases e : f = prey F (goA F W n) n (W 0 2)
      · have := prey_un hp
        rw [← e, ih] at this
        exact absurd this h
      · rw [wu_i e]
        exact ih
theorem goA_out {F : Int → Bool} {W : Wd} {D : Int} (h : WOk D W) {f : Int} (hf : f < 0 ∨ W 0 1 ≤ f) : ∀ n : Nat, n ≤ 4 → goA F W n 6 f = W 6 f
  | 0, _ => rfl
  | n + 1, hn => by
    have ih := goA_out (F := F) h hf n (by omega)
    rw [goA]
    split
    · exact ih
    · rename_i hp
      have hb := prey_bd (F := F) (goA_ok (F := F) h n (by omega)) n (W 0 2)
      rw [goA_r F W n 0 1 (by decide)] at hb
      rw [wu_i (by omega)]
      exact ih
theorem dB_0 (W : Wd) : dB W W = 0 := by
  have : dB W W = mk5 (fun _ => false) := mk5_c (fun f _ _ => by
    by_cases h : W 6 f = -1
    · simp [h]
    · simp [h])
  rw [this]
  rfl
theorem dB_s {W X : Wd} {f v : Int} (h0 : W 6 f = -1) (h1 : f < W 0 1) (hv : v ≠ -1) : mk5 (fun g => (decide (g < W 0 1) && decide (W 6 g = -1) && decide (X 6 g ≠ -1)) || decide (g = f)) = dB W (wu X 6 f v) := mk5_c (fun g _ _ => by
  by_cases e : g = f
  · subst e
    rw [wu_s]
    simp [h0, h1, hv]
  · rw [wu_i e]
    simp [e])
theorem dB_or {F : Int → Bool} {W : Wd} {n : Nat} {D d : Int} (h : WOk D W) (hn : n ≤ 4) (hp : prey F (goA F W n) n d ≠ -1) : iN (dB W (goA F W n)) ||| (iN 1 <<< (iN (prey F (goA F W n) n d) &&& 31)) = iN (dB W (wu (goA F W n) 6 (prey F (goA F W n) n d) n)) := by
  have hb := prey_bd (F := F) (goA_ok (F := F) h n hn) n d
  rw [goA_r F W n 0 1 (by decide)] at hb
  have hu := prey_un hp
  have h0 : W 6 (prey F (goA F W n) n d) = -1 := by
    by_cases e : W 6 (prey F (goA F W n) n d) = -1
    · exact e
    · rw [goA_keep F W _ e n] at hu
      exact hu
  have hnf := h.2.1
  rw [dB, or5 _ (by omega) (by omega), dB_s (v := (n : Int)) h0 hb.2 (by omega)]
theorem wv_up8 (τ : St) (f v : Int) : wv (up τ 8 0 0 f v) = wu (wv τ) 6 f v := by
  funext r i
  by_cases h0 : r = 0
  · subst h0; simp [wv, wu, up]
  · by_cases h7 : r = 7
    · subst h7; simp [wv, wu, up]
    · by_cases h6 : r = 6
      · subst h6; simp [wv, wu, up]
      · have h8 : ¬ r + 2 = 8 := by omega
        simp [wv, wu, up, h0, h7, h6, h8]
theorem wv_up3 (τ : St) (v : Int) : wv (up τ 0 0 0 3 v) = wu (wv τ) 0 2 v := by
  funext r i
  by_cases h0 : r = 0
  · subst h0
    by_cases i0 : i = 0
    · subst i0; simp [wv, wu, up]
    · by_cases i1 : i = 1
      · subst i1; simp [wv, wu, up]
      · by_cases i2 : i = 2
        · subst i2; simp [wv, wu, up]
        · simp [wv, wu, up, i0, i1, i2]
  · simp [wv, wu, up, h0]
def goTA (τ : St) : Nat → St
  | 0 => τ
  | n + 1 => if prey (fv (goTA τ n)) (wv (goTA τ n)) n (goTA τ n 0 0 0 3) = -1 then goTA τ n else up (goTA τ n) 8 0 0 (prey (fv (goTA τ n)) (wv (goTA τ n)) n (goTA τ n 0 0 0 3)) n
def goT (τ : St) : St := up (goTA τ (τ 0 0 0 5).toNat) 0 0 0 3 (goTA τ (τ 0 0 0 5).toNat 0 0 0 3 + 1)
theorem goTA_o (τ : St) {a : Nat} (h : a ≠ 8) (b : Nat) (c d : Int) : ∀ n : Nat, goTA τ n a b c d = τ a b c d
  | 0 => rfl
  | n + 1 => by
    rw [goTA]
    split
    · exact goTA_o τ h b c d n
    · rw [up_n (by omega)]
      exact goTA_o τ h b c d n
theorem fv_goTA (τ : St) (n : Nat) : fv (goTA τ n) = fv τ := by
  unfold fv
  rw [goTA_o τ (by decide), show goTA τ n 1 0 0 = τ 1 0 0 from funext fun d => goTA_o τ (by decide) 0 0 d n]
theorem wv_goTA (τ : St) : ∀ n : Nat, wv (goTA τ n) = goA (fv τ) (wv τ) n
  | 0 => rfl
  | n + 1 => by
    have ih := wv_goTA τ n
    have hd : goTA τ n 0 0 0 3 = wv τ 0 2 := goTA_o τ (by decide) 0 0 3 n
    rw [goTA, goA, fv_goTA, ih, hd]
    split
    · exact ih
    · rw [wv_up8, ih]
theorem wv_goT (τ : St) : wv (goT τ) = goD (fv τ) (wv τ) := by
  unfold goT goD
  rw [wv_up3, wv_goTA, goTA_o τ (by decide)]
  rfl
theorem goT_o (τ : St) {a : Nat} (h : a ≠ 8) (b : Nat) (c d : Int) (h2 : ¬ (a = 0 ∧ b = 0 ∧ c = 0 ∧ d = 3)) : goT τ a b c d = τ a b c d := by
  unfold goT
  rw [up_n h2]
  exact goTA_o τ h b c d _
theorem fv_goT (τ : St) : fv (goT τ) = fv τ := by
  unfold fv
  rw [goT_o τ (by decide) _ _ _ (by decide), show goT τ 1 0 0 = τ 1 0 0 from funext fun d => goT_o τ (by decide) 0 0 d (by omega)]
set_option maxHeartbeats 4000000 in
set_option maxRecDepth 10000 in
theorem c_X9_fasts (l : Launch) (G : GM) (τ : St) (D : Int) (hW : WOk D (wv τ)) (hD : D ≤ 1000000) (hF : FOk (τ 0 0 0 1) (τ 1 0 0)) (p d : Int) (p0 : 0 ≤ p) (p1 : p < 4) (d0 : 0 ≤ d) (d1 : d ≤ 10000000) : Ct l (YM G) yX9_fasts (.code yX9_fasts cX9_fasts 3 (some .boolean)) 2 [.ref (aM G 0), .int (iN p), .int (iN d)] τ (fun v τ' => v = some (.int (bI (fsB (fv τ) (τ 3 0 0 p) (τ 2 0 0 (τ 4 0 0 p)) (τ 5 0 0 p) d))) ∧ τ' = τ) := by
  refine Ct_of (own := RX9) [some (.ref (aM G 0)), some (.int (iN p)), some (.int (iN d))] rfl rfl (Nat.le_of_ble_eq_true rfl) rfl ?_
  intro E hE hM hl hR
  obtain ⟨hnp, hnf, hday, hpp, hff, hcc⟩ := WT_of hW
  have q1 := hpp p (by omega) (by omega)
  have q2 := hcc (τ 4 0 0 p) (by omega) (by omega)
  refine x_aload_n (pc' := 1) hE dX9_fasts_0 rfl rfl ?_
  refine x_aload_n (pc' := 2) hE dX9_fasts_1 rfl rfl ?_
  refine gM_6 (pc' := 5) hE hM tF_X9_16 dX9_fasts_2 rfl ?_
  refine x_iload_n (pc' := 6) hE dX9_fasts_5 rfl rfl ?_
  refine aM_3 (pc' := 7) hE hM (by omega) (by omega) dX9_fasts_6 rfl ?_
  refine x_aload_n (pc' := 8) hE dX9_fasts_7 rfl rfl ?_
  refine gM_4 (pc' := 11) hE hM tF_X9_13 dX9_fasts_8 rfl ?_
  refine x_aload_n (pc' := 12) hE dX9_fasts_11 rfl rfl ?_
  refine gM_7 (pc' := 15) hE hM tF_X9_19 dX9_fasts_12 rfl ?_
  refine x_iload_n (pc' := 16) hE dX9_fasts_15 rfl rfl ?_
  refine aM_4 (pc' := 17) hE hM (by omega) (by omega) dX9_fasts_16 rfl ?_
  refine aM_2 (pc' := 18) hE hM (by omega) (by omega) dX9_fasts_17 rfl ?_
  refine x_aload_n (pc' := 19) hE dX9_fasts_18 rfl rfl ?_
  refine gM_8 (pc' := 22) hE hM tF_X9_22 dX9_fasts_19 rfl ?_
  refine x_iload_n (pc' := 23) hE dX9_fasts_22 rfl rfl ?_
  refine aM_5 (pc' := 24) hE hM (by omega) (by omega) dX9_fasts_23 rfl ?_
  refine x_iload_n (pc' := 25) hE dX9_fasts_24 rfl rfl ?_
  refine x_cV1 (pc' := 28) hE hM (okM G) hl hR (c_X9_fastsBy l G _ _ _ _ _ (by assumption) (by omega) (by omega) (by omega) (by omega)) kX9_fastsBy tM_X9_129 (rcvM hM) (by decide) dX9_fasts_25 rfl rfl (Nat.le_of_ble_eq_true rfl) (fun σ1 e1 => ?_)
  replace e1 := e1.symm
  subst e1
  refine x_zret hE dX9_fasts_28 (nz_b _) ?_
  exact ⟨rfl, rfl⟩
set_option maxHeartbeats 4000000 in
set_option maxRecDepth 10000 in
theorem c_X9_readsNow (l : Launch) (G : GM) (τ : St) (D : Int) (hW : WOk D (wv τ)) (hD : D ≤ 1000000) (hF : FOk (τ 0 0 0 1) (τ 1 0 0)) (p d : Int) (p0 : 0 ≤ p) (p1 : p < 4) (d0 : 0 ≤ d) (d1 : d ≤ 10000000) : Ct l (YM G) yX9_readsNow (.code yX9_readsNow cX9_readsNow 3 (some .int)) 1 [.ref (aM G 0), .int (iN p), .int (iN d)] τ (fun v τ' => v = some (.int (iN (rdB (τ 3 0 0 p) (τ 2 0 0 (τ 4 0 0 p)) (τ 5 0 0 p) d))) ∧ τ' = τ) := by
  refine Ct_of (own := RX9) [some (.ref (aM G 0)), some (.int (iN p)), some (.int (iN d))] rfl rfl (Nat.le_of_ble_eq_true rfl) rfl ?_
  intro E hE hM hl hR
  obtain ⟨hnp, hnf, hday, hpp, hff, hcc⟩ := WT_of hW
  have q1 := hpp p (by omega) (by omega)
  have q2 := hcc (τ 4 0 0 p) (by omega) (by omega)
  refine x_aload_n (pc' := 1) hE dX9_readsNow_0 rfl rfl ?_
  refine gM_6 (pc' := 4) hE hM tF_X9_16 dX9_readsNow_1 rfl ?_
  refine x_iload_n (pc' := 5) hE dX9_readsNow_4 rfl rfl ?_
  refine aM_3 (pc' := 6) hE hM (by omega) (by omega) dX9_readsNow_5 rfl ?_
  refine x_aload_n (pc' := 7) hE dX9_readsNow_6 rfl rfl ?_
  refine gM_4 (pc' := 10) hE hM tF_X9_13 dX9_readsNow_7 rfl ?_
  refine x_aload_n (pc' := 11) hE dX9_readsNow_10 rfl rfl ?_
  refine gM_7 (pc' := 14) hE hM tF_X9_19 dX9_readsNow_11 rfl ?_
  refine x_iload_n (pc' := 15) hE dX9_readsNow_14 rfl rfl ?_
  refine aM_4 (pc' := 16) hE hM (by omega) (by omega) dX9_readsNow_15 rfl ?_
  refine aM_2 (pc' := 17) hE hM (by omega) (by omega) dX9_readsNow_16 rfl ?_
  refine x_aload_n (pc' := 18) hE dX9_readsNow_17 rfl rfl ?_
  refine gM_8 (pc' := 21) hE hM tF_X9_22 dX9_readsNow_18 rfl ?_
  refine x_iload_n (pc' := 22) hE dX9_readsNow_21 rfl rfl ?_
  refine aM_5 (pc' := 23) hE hM (by omega) (by omega) dX9_readsNow_22 rfl ?_
  refine x_iload_n (pc' := 24) hE dX9_readsNow_23 rfl rfl ?_
  refine x_cS1 (pc' := 27) hE hM (okM G) hl hR (c_X9_readsBy l G _ _ _ _ _ (by omega) (by omega) (by omega) (by omega)) kX9_readsBy tM_X9_125 (by decide) dX9_readsNow_24 rfl rfl (Nat.le_of_ble_eq_true rfl) (fun σ1 e1 => ?_)
  replace e1 := e1.symm
  subst e1
  refine x_iret hE dX9_readsNow_27 ?_
  exact ⟨rfl, rfl⟩
set_option maxHeartbeats 4000000 in
set_option maxRecDepth 10000 in
theorem c_X9_preyIn (l : Launch) (G : GM) (τ : St) (D : Int) (hW : WOk D (wv τ)) (c nm : Int) (c0 : -10 ≤ c) (c1 : c ≤ 10) (e0 : 0 ≤ nm) (e1 : nm ≤ 9) : Ct l (YM G) yX9_preyIn (.code yX9_preyIn cX9_preyIn 5 (some .int)) 0 [.ref (aM G 0), .int (iN c), .int (iN nm)] τ (fun v τ' => v = some (.int (iN (pIn (wv τ) c nm))) ∧ τ' = τ) := by
  refine Ct_of (own := RX9) [some (.ref (aM G 0)), some (.int (iN c)), some (.int (iN nm)), none, none] rfl rfl (Nat.le_of_ble_eq_true rfl) rfl ?_
  intro E hE hM hl hR
  obtain ⟨hnp, hnf, hday, hpp, hff, hcc⟩ := WT_of hW
  
  have loop : ∀ (n : Nat) (k : Int), -1 ≤ k → k < τ 0 0 0 9 → k + 1 = n → VV E 5 (AS (YM G)) (Qm (YM G) (fun v τ' => v = some (.int (iN (pIn (wv τ) c nm))) ∧ τ' = τ) E) (Rh (YM G) (τ)) 10 [some (.ref (aM G 0)), some (.int (iN c)), some (.int (iN nm)), some (.int (iN (lst (fun f => decide (τ 7 0 0 f = c) && decide (τ 8 0 0 f = -1) && decide (τ 6 0 0 f ≠ nm)) (τ 0 0 0 9 - (k + 1)).toNat (k + 1)))), some (.int (iN (k)))] [] := by
    intro n
    induction n using Nat.strongRecOn with
    | _ n ih =>
    intro k g0 g1 g2
    refine x_iload (pc' := 12) hE dX9_preyIn_10 rfl rfl ?_
    refine x_iflt (tgt := 61) (pc' := 15) hE dX9_preyIn_12 (by decide) rfl ⟨by omega, by omega⟩ (fun h1 => ?_) (fun h1 => ?_)
    · refine x_iload_n (pc' := 62) hE dX9_preyIn_61 rfl rfl ?_
      refine x_iret hE dX9_preyIn_62 ?_
      have e : k = -1 := by omega
      subst e
      refine ⟨ri ?_, rfl⟩
      rw [pInT, show τ 0 0 0 9 - (-1 + 1) = τ 0 0 0 9 by omega]
      rfl
    · have q1 := hff k (by omega) (by omega)
      refine x_aload_n (pc' := 16) hE dX9_preyIn_15 rfl rfl ?_
      refine gM_11 (pc' := 19) hE hM tF_X9_28 dX9_preyIn_16 rfl ?_
      refine x_iload (pc' := 21) hE dX9_preyIn_19 rfl rfl ?_
      refine aM_7 (pc' := 22) hE hM (by omega) (by omega) dX9_preyIn_21 rfl ?_
      refine x_iload_n (pc' := 23) hE dX9_preyIn_22 rfl rfl ?_
      refine x_icmpne (tgt := 53) (pc' := 26) hE dX9_preyIn_23 (by decide) rfl ⟨by omega, by omega⟩ ⟨by omega, by omega⟩ (fun h2 => ?_) (fun h2 => ?_)
      · refine x_iload_n (pc' := 54) hE dX9_preyIn_53 rfl rfl ?_
        refine x_istore_n (pc' := 55) hE dX9_preyIn_54 rfl (by decide) rfl rfl ?_
        dsimp only [List.set]
        refine x_iinc (pc' := 58) hE dX9_preyIn_55 rfl rfl (by decide) rfl rfl ?_
        dsimp only [List.set]
        refine x_goto (tgt := 10) hE dX9_preyIn_58 (by decide) ?_
        have e2 : (τ 0 0 0 9 - (k - 1 + 1)).toNat = (τ 0 0 0 9 - (k + 1)).toNat + 1 := by omega
        refine x_lve (lv' := [some (.ref (aM G 0)), some (.int (iN c)), some (.int (iN nm)), some (.int (iN (lst (fun f => decide (τ 7 0 0 f = c) && decide (τ 8 0 0 f = -1) && decide (τ 6 0 0 f ≠ nm)) (τ 0 0 0 9 - (k - 1 + 1)).toNat (k - 1 + 1)))), some (.int (iN (k - 1)))]) ?_ (ih (n - 1) (by omega) (k - 1) (by omega) (by omega) (by omega))
        rw [e2, lst_s, show k - 1 + 1 = k by omega]
        simp [h1, h2, Int.sub_eq_add_neg]
      · refine x_aload_n (pc' := 27) hE dX9_preyIn_26 rfl rfl ?_
        refine gM_12 (pc' := 30) hE hM tF_X9_31 dX9_preyIn_27 rfl ?_
        refine x_iload (pc' := 32) hE dX9_preyIn_30 rfl rfl ?_
        refine aM_8 (pc' := 33) hE hM (by omega) (by omega) dX9_preyIn_32 rfl ?_
        refine x_iconst (pc' := 34) hE dX9_preyIn_33 rfl ?_
        refine x_icmpne (tgt := 53) (pc' := 37) hE dX9_preyIn_34 (by decide) rfl ⟨by omega, by omega⟩ ⟨by omega, by omega⟩ (fun h3 => ?_) (fun h3 => ?_)
        · refine x_iload_n (pc' := 54) hE dX9_preyIn_53 rfl rfl ?_
          refine x_istore_n (pc' := 55) hE dX9_preyIn_54 rfl (by decide) rfl rfl ?_
          dsimp only [List.set]
          refine x_iinc (pc' := 58) hE dX9_preyIn_55 rfl rfl (by decide) rfl rfl ?_
          dsimp only [List.set]
          refine x_goto (tgt := 10) hE dX9_preyIn_58 (by decide) ?_
          have e2 : (τ 0 0 0 9 - (k - 1 + 1)).toNat = (τ 0 0 0 9 - (k + 1)).toNat + 1 := by omega
          refine x_lve (lv' := [some (.ref (aM G 0)), some (.int (iN c)), some (.int (iN nm)), some (.int (iN (lst (fun f => decide (τ 7 0 0 f = c) && decide (τ 8 0 0 f = -1) && decide (τ 6 0 0 f ≠ nm)) (τ 0 0 0 9 - (k - 1 + 1)).toNat (k - 1 + 1)))), some (.int (iN (k - 1)))]) ?_ (ih (n - 1) (by omega) (k - 1) (by omega) (by omega) (by omega))
          rw [e2, lst_s, show k - 1 + 1 = k by omega]
          simp [h1, h2, h3, Int.sub_eq_add_neg]
        · refine x_aload_n (pc' := 38) hE dX9_preyIn_37 rfl rfl ?_
          refine gM_10 (pc' := 41) hE hM tF_X9_25 dX9_preyIn_38 rfl ?_
          refine x_iload (pc' := 43) hE dX9_preyIn_41 rfl rfl ?_
          refine aM_6 (pc' := 44) hE hM (by omega) (by omega) dX9_preyIn_43 rfl ?_
          refine x_iload_n (pc' := 45) hE dX9_preyIn_44 rfl rfl ?_
          refine x_icmpeq (tgt := 53) (pc' := 48) hE dX9_preyIn_45 (by decide) rfl ⟨by omega, by omega⟩ ⟨by omega, by omega⟩ (fun h4 => ?_) (fun h4 => ?_)
          · refine x_iload_n (pc' := 54) hE dX9_preyIn_53 rfl rfl ?_
            refine x_istore_n (pc' := 55) hE dX9_preyIn_54 rfl (by decide) rfl rfl ?_
            dsimp only [List.set]
            refine x_iinc (pc' := 58) hE dX9_preyIn_55 rfl rfl (by decide) rfl rfl ?_
            dsimp only [List.set]
            refine x_goto (tgt := 10) hE dX9_preyIn_58 (by decide) ?_
            have e2 : (τ 0 0 0 9 - (k - 1 + 1)).toNat = (τ 0 0 0 9 - (k + 1)).toNat + 1 := by omega
            refine x_lve (lv' := [some (.ref (aM G 0)), some (.int (iN c)), some (.int (iN nm)), some (.int (iN (lst (fun f => decide (τ 7 0 0 f = c) && decide (τ 8 0 0 f = -1) && decide (τ 6 0 0 f ≠ nm)) (τ 0 0 0 9 - (k - 1 + 1)).toNat (k - 1 + 1)))), some (.int (iN (k - 1)))]) ?_ (ih (n - 1) (by omega) (k - 1) (by omega) (by omega) (by omega))
            rw [e2, lst_s, show k - 1 + 1 = k by omega]
            simp [h1, h2, h3, h4, Int.sub_eq_add_neg]
          · refine x_iload (pc' := 50) hE dX9_preyIn_48 rfl rfl ?_
            refine x_goto (tgt := 54) hE dX9_preyIn_50 (by decide) ?_
            refine x_istore_n (pc' := 55) hE dX9_preyIn_54 rfl (by decide) rfl rfl ?_
            dsimp only [List.set]
            refine x_iinc (pc' := 58) hE dX9_preyIn_55 rfl rfl (by decide) rfl rfl ?_
            dsimp only [List.set]
            refine x_goto (tgt := 10) hE dX9_preyIn_58 (by decide) ?_
            have e2 : (τ 0 0 0 9 - (k - 1 + 1)).toNat = (τ 0 0 0 9 - (k + 1)).toNat + 1 := by omega
            refine x_lve (lv' := [some (.ref (aM G 0)), some (.int (iN c)), some (.int (iN nm)), some (.int (iN (lst (fun f => decide (τ 7 0 0 f = c) && decide (τ 8 0 0 f = -1) && decide (τ 6 0 0 f ≠ nm)) (τ 0 0 0 9 - (k - 1 + 1)).toNat (k - 1 + 1)))), some (.int (iN (k - 1)))]) ?_ (ih (n - 1) (by omega) (k - 1) (by omega) (by omega) (by omega))
            rw [e2, lst_s, show k - 1 + 1 = k by omega]
            simp [h1, h2, h3, h4, Int.sub_eq_add_neg]
  refine x_iconst (pc' := 1) hE dX9_preyIn_0 rfl ?_
  refine x_istore_n (pc' := 2) hE dX9_preyIn_1 rfl (by decide) rfl rfl ?_
  dsimp only [List.set]
  refine x_aload_n (pc' := 3) hE dX9_preyIn_2 rfl rfl ?_
  refine gM_9 (pc' := 6) hE hM tF_X9_133 dX9_preyIn_3 rfl ?_
  refine x_iconst (pc' := 7) hE dX9_preyIn_6 rfl ?_
  refine x_isub (pc' := 8) hE dX9_preyIn_7 rfl ?_
  refine x_istore (pc' := 10) hE dX9_preyIn_8 rfl (by decide) rfl rfl ?_
  dsimp only [List.set]
  refine x_lve (lv' := [some (.ref (aM G 0)), some (.int (iN c)), some (.int (iN nm)), some (.int (iN (lst (fun f => decide (τ 7 0 0 f = c) && decide (τ 8 0 0 f = -1) && decide (τ 6 0 0 f ≠ nm)) (τ 0 0 0 9 - (τ 0 0 0 9 - 1 + 1)).toNat (τ 0 0 0 9 - 1 + 1)))), some (.int (iN (τ 0 0 0 9 - 1)))]) ?_ (loop (τ 0 0 0 9).toNat (τ 0 0 0 9 - 1) (by omega) (by omega) (by omega))
  rw [show (τ 0 0 0 9 - (τ 0 0 0 9 - 1 + 1)).toNat = 0 by omega]
  rfl
set_option maxHeartbeats 4000000 in
set_option maxRecDepth 10000 in
theorem c_X9_prey (l : Launch) (G : GM) (τ : St) (D : Int) (hW : WOk D (wv τ)) (hD : D ≤ 1000000) (hF : FOk (τ 0 0 0 1) (τ 1 0 0)) (p d : Int) (p0 : 0 ≤ p) (p1 : p < 4) (d0 : 0 ≤ d) (d1 : d ≤ 10000000) : Ct l (YM G) yX9_prey (.code yX9_prey cX9_prey 6 (some .int)) 3 [.ref (aM G 0), .int (iN p), .int (iN d)] τ (fun v τ' => v = some (.int (iN (prey (fv τ) (wv τ) p d))) ∧ τ' = τ) := by
  refine Ct_of (own := RX9) [some (.ref (aM G 0)), some (.int (iN p)), some (.int (iN d)), none, none, none] rfl rfl (Nat.le_of_ble_eq_true rfl) rfl ?_
  intro E hE hM hl hR
  obtain ⟨hnp, hnf, hday, hpp, hff, hcc⟩ := WT_of hW
  have q1 := hpp p (by omega) (by omega)
  have q2 := hcc (τ 4 0 0 p) (by omega) (by omega)
  have q3 := rdB_bd (k := τ 3 0 0 p) (f := τ 2 0 0 (τ 4 0 0 p)) (g := τ 5 0 0 p) (d := d) (by omega) (by omega) (by omega)
  have b1 := pIn_bd hW (τ 4 0 0 p) (rdB (τ 3 0 0 p) (τ 2 0 0 (τ 4 0 0 p)) (τ 5 0 0 p) d % 30 % 10)
  have b2 := pIn_bd hW (τ 4 0 0 p - 1) (rdB (τ 3 0 0 p) (τ 2 0 0 (τ 4 0 0 p)) (τ 5 0 0 p) d % 30 % 10)
  have b3 : wv τ 0 1 = τ 0 0 0 9 := rfl
  refine x_aload_n (pc' := 1) hE dX9_prey_0 rfl rfl ?_
  refine x_iload_n (pc' := 2) hE dX9_prey_1 rfl rfl ?_
  refine x_iload_n (pc' := 3) hE dX9_prey_2 rfl rfl ?_
  refine x_cV1 (pc' := 6) hE hM (okM G) hl hR (c_X9_fasts l G _ D (by assumption) (by assumption) (by assumption) _ _ (by omega) (by omega) (by omega) (by omega)) kX9_fasts tM_X9_136 (rcvM hM) (by decide) dX9_prey_3 rfl rfl (Nat.le_of_ble_eq_true rfl) (fun σ1 e1 => ?_)
  replace e1 := e1.symm
  subst e1
  refine x_ifeqB (tgt := 11) (pc' := 9) hE dX9_prey_6 (by decide) rfl (fun h2 => ?_) (fun h2 => ?_)
  · try simp only [decide_eq_true_eq, decide_eq_false_iff_not] at h2
    refine x_aload_n (pc' := 12) hE dX9_prey_11 rfl rfl ?_
    refine x_iload_n (pc' := 13) hE dX9_prey_12 rfl rfl ?_
    refine x_iload_n (pc' := 14) hE dX9_prey_13 rfl rfl ?_
    refine x_cV1 (pc' := 17) hE hM (okM G) hl hR (c_X9_readsNow l G _ D (by assumption) (by assumption) (by assumption) _ _ (by omega) (by omega) (by omega) (by omega)) kX9_readsNow tM_X9_140 (rcvM hM) (by decide) dX9_prey_14 rfl rfl (Nat.le_of_ble_eq_true rfl) (fun σ3 e3 => ?_)
    replace e3 := e3.symm
    subst e3
    refine x_cS1 (pc' := 20) hE hM (okM G) hl hR (c_X9_nameOn l G _ _ (by omega) (by omega)) kX9_nameOn tM_X9_108 (by decide) dX9_prey_17 rfl rfl (Nat.le_of_ble_eq_true rfl) (fun σ4 e4 => ?_)
    replace e4 := e4.symm
    subst e4
    refine x_istore_n (pc' := 21) hE dX9_prey_20 rfl (by decide) rfl rfl ?_
    dsimp only [List.set]
    refine x_aload_n (pc' := 22) hE dX9_prey_21 rfl rfl ?_
    refine x_aload_n (pc' := 23) hE dX9_prey_22 rfl rfl ?_
    refine gM_7 (pc' := 26) hE hM tF_X9_19 dX9_prey_23 rfl ?_
    refine x_iload_n (pc' := 27) hE dX9_prey_26 rfl rfl ?_
    refine aM_4 (pc' := 28) hE hM (by omega) (by omega) dX9_prey_27 rfl ?_
    refine x_iload_n (pc' := 29) hE dX9_prey_28 rfl rfl ?_
    refine x_cV1 (pc' := 32) hE hM (okM G) hl hR (c_X9_preyIn l G _ D (by assumption) _ _ (by omega) (by omega) (by omega) (by omega)) kX9_preyIn tM_X9_143 (rcvM hM) (by decide) dX9_prey_29 rfl rfl (Nat.le_of_ble_eq_true rfl) (fun σ5 e5 => ?_)
    replace e5 := e5.symm
    subst e5
    refine x_istore (pc' := 34) hE dX9_prey_32 rfl (by decide) rfl rfl ?_
    dsimp only [List.set]
    refine x_aload_n (pc' := 35) hE dX9_prey_34 rfl rfl ?_
    refine x_aload_n (pc' := 36) hE dX9_prey_35 rfl rfl ?_
    refine gM_7 (pc' := 39) hE hM tF_X9_19 dX9_prey_36 rfl ?_
    refine x_iload_n (pc' := 40) hE dX9_prey_39 rfl rfl ?_
    refine aM_4 (pc' := 41) hE hM (by omega) (by omega) dX9_prey_40 rfl ?_
    refine x_iconst (pc' := 42) hE dX9_prey_41 rfl ?_
    refine x_isub (pc' := 43) hE dX9_prey_42 rfl ?_
    refine x_iload_n (pc' := 44) hE dX9_prey_43 rfl rfl ?_
    refine x_cV1 (pc' := 47) hE hM (okM G) hl hR (c_X9_preyIn l G _ D (by assumption) _ _ (by omega) (by omega) (by omega) (by omega)) kX9_preyIn tM_X9_143 (rcvM hM) (by decide) dX9_prey_44 rfl rfl (Nat.le_of_ble_eq_true rfl) (fun σ6 e6 => ?_)
    replace e6 := e6.symm
    subst e6
    refine x_istore (pc' := 49) hE dX9_prey_47 rfl (by decide) rfl rfl ?_
    dsimp only [List.set]
    refine x_iload (pc' := 51) hE dX9_prey_49 rfl rfl ?_
    refine x_iconst (pc' := 52) hE dX9_prey_51 rfl ?_
    refine x_icmpeq (tgt := 60) (pc' := 55) hE dX9_prey_52 (by decide) rfl ⟨by omega, by omega⟩ ⟨by omega, by omega⟩ (fun h7 => ?_) (fun h7 => ?_)
    · refine x_iload (pc' := 62) hE dX9_prey_60 rfl rfl ?_
      refine x_iconst (pc' := 63) hE dX9_prey_62 rfl ?_
      refine x_icmpeq (tgt := 71) (pc' := 66) hE dX9_prey_63 (by decide) rfl ⟨by omega, by omega⟩ ⟨by omega, by omega⟩ (fun h8 => ?_) (fun h8 => ?_)
      · refine x_aload_n (pc' := 72) hE dX9_prey_71 rfl rfl ?_
        refine x_aload_n (pc' := 73) hE dX9_prey_72 rfl rfl ?_
        refine gM_7 (pc' := 76) hE hM tF_X9_19 dX9_prey_73 rfl ?_
        refine x_iload_n (pc' := 77) hE dX9_prey_76 rfl rfl ?_
        refine aM_4 (pc' := 78) hE hM (by omega) (by omega) dX9_prey_77 rfl ?_
        refine x_iconst (pc' := 79) hE dX9_prey_78 rfl ?_
        refine x_iadd (pc' := 80) hE dX9_prey_79 rfl ?_
        refine x_iload_n (pc' := 81) hE dX9_prey_80 rfl rfl ?_
        refine x_cV1 (pc' := 84) hE hM (okM G) hl hR (c_X9_preyIn l G _ D (by assumption) _ _ (by omega) (by omega) (by omega) (by omega)) kX9_preyIn tM_X9_143 (rcvM hM) (by decide) dX9_prey_81 rfl rfl (Nat.le_of_ble_eq_true rfl) (fun σ9 e9 => ?_)
        replace e9 := e9.symm
        subst e9
        refine x_iret hE dX9_prey_84 ?_
        refine ⟨ri ?_, rfl⟩
        rw [preyT]
        generalize rdB (τ 3 0 0 p) (τ 2 0 0 (τ 4 0 0 p)) (τ 5 0 0 p) d % 30 % 10 = nm at *
        simp [h2, h7, h8]
      · refine x_iload (pc' := 68) hE dX9_prey_66 rfl rfl ?_
        refine x_goto (tgt := 84) hE dX9_prey_68 (by decide) ?_
        refine x_iret hE dX9_prey_84 ?_
        refine ⟨ri ?_, rfl⟩
        rw [preyT]
        generalize rdB (τ 3 0 0 p) (τ 2 0 0 (τ 4 0 0 p)) (τ 5 0 0 p) d % 30 % 10 = nm at *
        simp [h2, h7, h8]
    · refine x_iload (pc' := 57) hE dX9_prey_55 rfl rfl ?_
      refine x_goto (tgt := 84) hE dX9_prey_57 (by decide) ?_
      refine x_iret hE dX9_prey_84 ?_
      refine ⟨ri ?_, rfl⟩
      rw [preyT]
      generalize rdB (τ 3 0 0 p) (τ 2 0 0 (τ 4 0 0 p)) (τ 5 0 0 p) d % 30 % 10 = nm at *
      simp [h2, h7]
  · try simp only [decide_eq_true_eq, decide_eq_false_iff_not] at h2
    refine x_iconst (pc' := 10) hE dX9_prey_9 rfl ?_
    refine x_iret hE dX9_prey_10 ?_
    refine ⟨ri ?_, rfl⟩
    rw [preyT]
    generalize rdB (τ 3 0 0 p) (τ 2 0 0 (τ 4 0 0 p)) (τ 5 0 0 p) d % 30 % 10 = nm at *
    simp [h2]
set_option maxHeartbeats 4000000 in
set_option maxRecDepth 10000 in
theorem c_X9_goDay (l : Launch) (G : GM) (τ : St) (D : Int) (hW : WOk D (wv τ)) (hD : D ≤ 1000000) (hF : FOk (τ 0 0 0 1) (τ 1 0 0))  : Ct l (YM G) yX9_goDay (.code yX9_goDay cX9_goDay 4 (some .int)) 4 [.ref (aM G 0)] τ (fun v τ' => v = some (.int (iN (dB (wv τ) (goD (fv τ) (wv τ))))) ∧ τ' = goT τ) := by
  refine Ct_of (own := RX9) [some (.ref (aM G 0)), none, none, none] rfl rfl (Nat.le_of_ble_eq_true rfl) rfl ?_
  intro E hE hM hl hR
  obtain ⟨hnp, hnf, hday, hpp, hff, hcc⟩ := WT_of hW
  
  have loop : ∀ (n : Nat) (k : Nat), (k : Int) ≤ τ 0 0 0 5 → τ 0 0 0 5 - k = n → VV E 4 (AS (YM G)) (Qm (YM G) (fun v τ' => v = some (.int (iN (dB (wv τ) (goD (fv τ) (wv τ))))) ∧ τ' = goT τ) E) (Rh (YM G) (goTA τ k)) 4 [some (.ref (aM G 0)), some (.int (iN (dB (wv τ) (wv (goTA τ (k)))))), some (.int (iN ((k : Nat) : Int))), none] [] := by
    intro n
    induction n using Nat.strongRecOn with
    | _ n ih =>
    intro k g1 g2
    have e5 : goTA τ k 0 0 0 5 = τ 0 0 0 5 := goTA_o τ (by decide) 0 0 5 k
    have e3 : goTA τ k 0 0 0 3 = τ 0 0 0 3 := goTA_o τ (by decide) 0 0 3 k
    have hWk : WOk D (wv (goTA τ k)) := by rw [wv_goTA]; exact goA_ok hW k (by omega)
    have hFk : FOk (goTA τ k 0 0 0 1) (goTA τ k 1 0 0) := by rw [goTA_o τ (by decide), show goTA τ k 1 0 0 = τ 1 0 0 from funext fun d => goTA_o τ (by decide) 0 0 d k]; exact hF
    have hnk : wv (goTA τ k) 0 1 = τ 0 0 0 9 := goTA_o τ (by decide) 0 0 9 k
    have hb := prey_bd (F := fv (goTA τ k)) hWk k (goTA τ k 0 0 0 3)
    refine x_iload_n (pc' := 5) hE dX9_goDay_4 rfl rfl ?_
    refine x_aload_n (pc' := 6) hE dX9_goDay_5 rfl rfl ?_
    refine gM_5 (pc' := 9) hE hM tF_X9_122 dX9_goDay_6 rfl ?_
    refine x_icmpge (tgt := 46) (pc' := 12) hE dX9_goDay_9 (by decide) rfl ⟨by omega, by omega⟩ ⟨by omega, by omega⟩ (fun h1 => ?_) (fun h1 => ?_)
    · refine x_aload_n (pc' := 47) hE dX9_goDay_46 rfl rfl ?_
      refine x_dup (pc' := 48) hE dX9_goDay_47 rfl rfl ?_
      refine gM_3 (pc' := 51) hE hM tF_X9_146 dX9_goDay_48 rfl ?_
      refine x_iconst (pc' := 52) hE dX9_goDay_51 rfl ?_
      refine x_iadd (pc' := 53) hE dX9_goDay_52 rfl ?_
      refine pM_3 (pc' := 56) hE hM tF_X9_146 dX9_goDay_53 rfl ?_
      refine x_iload_n (pc' := 57) hE dX9_goDay_56 rfl rfl ?_
      refine x_iret hE dX9_goDay_57 ?_
      have e : k = (τ 0 0 0 5).toNat := by omega
      subst e
      refine ⟨ri ?_, rfl⟩
      rw [wv_goTA]
      unfold dB
      refine mk5_c (fun f _ _ => ?_)
      rw [goD_6]
      rfl
    · refine x_aload_n (pc' := 13) hE dX9_goDay_12 rfl rfl ?_
      refine x_iload_n (pc' := 14) hE dX9_goDay_13 rfl rfl ?_
      refine x_aload_n (pc' := 15) hE dX9_goDay_14 rfl rfl ?_
      refine gM_3 (pc' := 18) hE hM tF_X9_146 dX9_goDay_15 rfl ?_
      refine x_cV1 (pc' := 21) hE hM (okM G) hl hR (c_X9_prey l G _ D (by assumption) (by assumption) (by assumption) _ _ (by omega) (by omega) (by omega) (by omega)) kX9_prey tM_X9_149 (rcvM hM) (by decide) dX9_goDay_18 rfl rfl (Nat.le_of_ble_eq_true rfl) (fun σ2 e2 => ?_)
      replace e2 := e2.symm
      subst e2
      refine x_istore_n (pc' := 22) hE dX9_goDay_21 rfl (by decide) rfl rfl ?_
      dsimp only [List.set]
      refine x_iload_n (pc' := 23) hE dX9_goDay_22 rfl rfl ?_
      refine x_iconst (pc' := 24) hE dX9_goDay_23 rfl ?_
      refine x_icmpeq (tgt := 40) (pc' := 27) hE dX9_goDay_24 (by decide) rfl ⟨by omega, by omega⟩ ⟨by omega, by omega⟩ (fun h3 => ?_) (fun h3 => ?_)
      · refine x_iinc (pc' := 43) hE dX9_goDay_40 rfl rfl (by decide) rfl rfl ?_
        dsimp only [List.set]
        refine x_goto (tgt := 4) hE dX9_goDay_43 (by decide) ?_
        have e6 : goTA τ (k + 1) = goTA τ k := by rw [goTA, if_pos h3]
        rw [← e6]
        refine x_lve (lv' := [some (.ref (aM G 0)), some (.int (iN (dB (wv τ) (wv (goTA τ (k + 1)))))), some (.int (iN ((k + 1 : Nat) : Int))), some (.int (iN (prey (fv (goTA τ k)) (wv (goTA τ k)) k (goTA τ k 0 0 0 3))))]) (by rw [e6]; rfl) ?_
        refine x_lvf (lv' := [some (.ref (aM G 0)), some (.int (iN (dB (wv τ) (wv (goTA τ (k + 1)))))), some (.int (iN ((k + 1 : Nat) : Int))), none]) ⟨Or.inr rfl, Or.inr rfl, Or.inr rfl, Or.inl rfl, trivial⟩ ?_
        exact ih (n - 1) (by omega) (k + 1) (by omega) (by omega)
      · refine x_aload_n (pc' := 28) hE dX9_goDay_27 rfl rfl ?_
        refine gM_12 (pc' := 31) hE hM tF_X9_31 dX9_goDay_28 rfl ?_
        refine x_iload_n (pc' := 32) hE dX9_goDay_31 rfl rfl ?_
        refine x_iload_n (pc' := 33) hE dX9_goDay_32 rfl rfl ?_
        refine sM_8 (pc' := 34) hE hM (by omega) (by omega) dX9_goDay_33 rfl ?_
        refine x_iload_n (pc' := 35) hE dX9_goDay_34 rfl rfl ?_
        refine x_iconst (pc' := 36) hE dX9_goDay_35 rfl ?_
        refine x_iload_n (pc' := 37) hE dX9_goDay_36 rfl rfl ?_
        refine x_ishl (pc' := 38) hE dX9_goDay_37 rfl ?_
        refine x_ior (pc' := 39) hE dX9_goDay_38 rfl ?_
        have e6 : goTA τ (k + 1) = up (goTA τ k) 8 0 0 (prey (fv (goTA τ k)) (wv (goTA τ k)) k (goTA τ k 0 0 0 3)) k := by rw [goTA, if_neg h3]
        refine x_st (st' := [.int (iN (dB (wv τ) (wv (goTA τ (k + 1)))))]) ?_ ?_
        · rw [e6, wv_up8]
          have hp := h3
          have e7 := fv_goTA τ k
          rw [wv_goTA τ k, e7] at hp ⊢
          rw [dB_or hW (by omega) hp]
        refine x_istore_n (pc' := 40) hE dX9_goDay_39 rfl (by decide) rfl rfl ?_
        dsimp only [List.set]
        refine x_iinc (pc' := 43) hE dX9_goDay_40 rfl rfl (by decide) rfl rfl ?_
        dsimp only [List.set]
        refine x_goto (tgt := 4) hE dX9_goDay_43 (by decide) ?_
        rw [← e6]
        refine x_lvf (lv' := [some (.ref (aM G 0)), some (.int (iN (dB (wv τ) (wv (goTA τ (k + 1)))))), some (.int (iN ((k + 1 : Nat) : Int))), none]) ⟨Or.inr rfl, Or.inr rfl, Or.inr rfl, Or.inl rfl, trivial⟩ ?_
        exact ih (n - 1) (by omega) (k + 1) (by omega) (by omega)
  refine x_iconst (pc' := 1) hE dX9_goDay_0 rfl ?_
  refine x_istore_n (pc' := 2) hE dX9_goDay_1 rfl (by decide) rfl rfl ?_
  dsimp only [List.set]
  refine x_iconst (pc' := 3) hE dX9_goDay_2 rfl ?_
  refine x_istore_n (pc' := 4) hE dX9_goDay_3 rfl (by decide) rfl rfl ?_
  dsimp only [List.set]
  refine x_lve (lv' := [some (.ref (aM G 0)), some (.int (iN (dB (wv τ) (wv (goTA τ (0)))))), some (.int (iN ((0 : Nat) : Int))), none]) (by rw [show goTA τ 0 = τ from rfl, dB_0]; rfl) ?_
  exact loop (τ 0 0 0 5).toNat 0 (by omega) (by omega)
set_option maxHeartbeats 4000000 in
set_option maxRecDepth 10000 in
theorem c_X9_eatenMany (l : Launch) (G : GM) (τ : St) (D : Int) (hW : WOk D (wv τ)) (p : Int) (p0 : 0 ≤ p) (p1 : p < 4) : Ct l (YM G) yX9_eatenMany (.code yX9_eatenMany cX9_eatenMany 4 (some .int)) 0 [.ref (aM G 0), .int (iN p)] τ (fun v τ' => v = some (.int (iN (eatP (wv τ) p))) ∧ τ' = τ) := by
  refine Ct_of (own := RX9) [some (.ref (aM G 0)), some (.int (iN p)), none, none] rfl rfl (Nat.le_of_ble_eq_true rfl) rfl ?_
  intro E hE hM hl hR
  obtain ⟨hnp, hnf, hday, hpp, hff, hcc⟩ := WT_of hW
  
  have loop : ∀ (n : Nat) (k : Int), 0 ≤ k → k ≤ τ 0 0 0 9 → τ 0 0 0 9 - k = n → VV E 4 (AS (YM G)) (Qm (YM G) (fun v τ' => v = some (.int (iN (eatP (wv τ) p))) ∧ τ' = τ) E) (Rh (YM G) (τ)) 4 [some (.ref (aM G 0)), some (.int (iN p)), some (.int (iN (cntU (fun f => decide (τ 8 0 0 f = p)) (k).toNat))), some (.int (iN (k)))] [] := by
    intro n
    induction n using Nat.strongRecOn with
    | _ n ih =>
    intro k g0 g1 g2
    have hb := cntU_bd (fun f => decide (τ 8 0 0 f = p)) k.toNat
    refine x_iload_n (pc' := 5) hE dX9_eatenMany_4 rfl rfl ?_
    refine x_aload_n (pc' := 6) hE dX9_eatenMany_5 rfl rfl ?_
    refine gM_9 (pc' := 9) hE hM tF_X9_133 dX9_eatenMany_6 rfl ?_
    refine x_icmpge (tgt := 36) (pc' := 12) hE dX9_eatenMany_9 (by decide) rfl ⟨by omega, by omega⟩ ⟨by omega, by omega⟩ (fun h1 => ?_) (fun h1 => ?_)
    · refine x_iload_n (pc' := 37) hE dX9_eatenMany_36 rfl rfl ?_
      refine x_iret hE dX9_eatenMany_37 ?_
      have e : k = τ 0 0 0 9 := by omega
      subst e
      exact ⟨rfl, rfl⟩
    · have q1 := hff k (by omega) (by omega)
      refine x_iload_n (pc' := 13) hE dX9_eatenMany_12 rfl rfl ?_
      refine x_aload_n (pc' := 14) hE dX9_eatenMany_13 rfl rfl ?_
      refine gM_12 (pc' := 17) hE hM tF_X9_31 dX9_eatenMany_14 rfl ?_
      refine x_iload_n (pc' := 18) hE dX9_eatenMany_17 rfl rfl ?_
      refine aM_8 (pc' := 19) hE hM (by omega) (by omega) dX9_eatenMany_18 rfl ?_
      refine x_iload_n (pc' := 20) hE dX9_eatenMany_19 rfl rfl ?_
      refine x_icmpne (tgt := 27) (pc' := 23) hE dX9_eatenMany_20 (by decide) rfl ⟨by omega, by omega⟩ ⟨by omega, by omega⟩ (fun h2 => ?_) (fun h2 => ?_)
      · refine x_iconst (pc' := 28) hE dX9_eatenMany_27 rfl ?_
        refine x_iadd (pc' := 29) hE dX9_eatenMany_28 rfl ?_
        refine x_istore_n (pc' := 30) hE dX9_eatenMany_29 rfl (by decide) rfl rfl ?_
        dsimp only [List.set]
        refine x_iinc (pc' := 33) hE dX9_eatenMany_30 rfl rfl (by decide) rfl rfl ?_
        dsimp only [List.set]
        refine x_goto (tgt := 4) hE dX9_eatenMany_33 (by decide) ?_
        refine x_lve (lv' := [some (.ref (aM G 0)), some (.int (iN p)), some (.int (iN (cntU (fun f => decide (τ 8 0 0 f = p)) (k + 1).toNat))), some (.int (iN (k + 1)))]) ?_ (ih (n - 1) (by omega) (k + 1) (by omega) (by omega) (by omega))
        rw [cntU_s _ g0]
        simp [h1, h2]
      · refine x_iconst (pc' := 24) hE dX9_eatenMany_23 rfl ?_
        refine x_goto (tgt := 28) hE dX9_eatenMany_24 (by decide) ?_
        refine x_iadd (pc' := 29) hE dX9_eatenMany_28 rfl ?_
        refine x_istore_n (pc' := 30) hE dX9_eatenMany_29 rfl (by decide) rfl rfl ?_
        dsimp only [List.set]
        refine x_iinc (pc' := 33) hE dX9_eatenMany_30 rfl rfl (by decide) rfl rfl ?_
        dsimp only [List.set]
        refine x_goto (tgt := 4) hE dX9_eatenMany_33 (by decide) ?_
        refine x_lve (lv' := [some (.ref (aM G 0)), some (.int (iN p)), some (.int (iN (cntU (fun f => decide (τ 8 0 0 f = p)) (k + 1).toNat))), some (.int (iN (k + 1)))]) ?_ (ih (n - 1) (by omega) (k + 1) (by omega) (by omega) (by omega))
        rw [cntU_s _ g0]
        simp [h1, h2]
  refine x_iconst (pc' := 1) hE dX9_eatenMany_0 rfl ?_
  refine x_istore_n (pc' := 2) hE dX9_eatenMany_1 rfl (by decide) rfl rfl ?_
  dsimp only [List.set]
  refine x_iconst (pc' := 3) hE dX9_eatenMany_2 rfl ?_
  refine x_istore_n (pc' := 4) hE dX9_eatenMany_3 rfl (by decide) rfl rfl ?_
  dsimp only [List.set]
  exact loop (τ 0 0 0 9).toNat 0 (by omega) (by omega) (by omega)
set_option maxHeartbeats 4000000 in
set_option maxRecDepth 10000 in
theorem c_X9_eatenAll (l : Launch) (G : GM) (τ : St) (D : Int) (hW : WOk D (wv τ))  : Ct l (YM G) yX9_eatenAll (.code yX9_eatenAll cX9_eatenAll 3 (some .int)) 0 [.ref (aM G 0)] τ (fun v τ' => v = some (.int (iN (eatN (wv τ)))) ∧ τ' = τ) := by
  refine Ct_of (own := RX9) [some (.ref (aM G 0)), none, none] rfl rfl (Nat.le_of_ble_eq_true rfl) rfl ?_
  intro E hE hM hl hR
  obtain ⟨hnp, hnf, hday, hpp, hff, hcc⟩ := WT_of hW
  
  have loop : ∀ (n : Nat) (k : Int), 0 ≤ k → k ≤ τ 0 0 0 9 → τ 0 0 0 9 - k = n → VV E 3 (AS (YM G)) (Qm (YM G) (fun v τ' => v = some (.int (iN (eatN (wv τ)))) ∧ τ' = τ) E) (Rh (YM G) (τ)) 4 [some (.ref (aM G 0)), some (.int (iN (cntU (fun f => decide (τ 8 0 0 f ≠ -1)) (k).toNat))), some (.int (iN (k)))] [] := by
    intro n
    induction n using Nat.strongRecOn with
    | _ n ih =>
    intro k g0 g1 g2
    have hb := cntU_bd (fun f => decide (τ 8 0 0 f ≠ -1)) k.toNat
    refine x_iload_n (pc' := 5) hE dX9_eatenAll_4 rfl rfl ?_
    refine x_aload_n (pc' := 6) hE dX9_eatenAll_5 rfl rfl ?_
    refine gM_9 (pc' := 9) hE hM tF_X9_133 dX9_eatenAll_6 rfl ?_
    refine x_icmpge (tgt := 36) (pc' := 12) hE dX9_eatenAll_9 (by decide) rfl ⟨by omega, by omega⟩ ⟨by omega, by omega⟩ (fun h1 => ?_) (fun h1 => ?_)
    · refine x_iload_n (pc' := 37) hE dX9_eatenAll_36 rfl rfl ?_
      refine x_iret hE dX9_eatenAll_37 ?_
      have e : k = τ 0 0 0 9 := by omega
      subst e
      exact ⟨rfl, rfl⟩
    · have q1 := hff k (by omega) (by omega)
      refine x_iload_n (pc' := 13) hE dX9_eatenAll_12 rfl rfl ?_
      refine x_aload_n (pc' := 14) hE dX9_eatenAll_13 rfl rfl ?_
      refine gM_12 (pc' := 17) hE hM tF_X9_31 dX9_eatenAll_14 rfl ?_
      refine x_iload_n (pc' := 18) hE dX9_eatenAll_17 rfl rfl ?_
      refine aM_8 (pc' := 19) hE hM (by omega) (by omega) dX9_eatenAll_18 rfl ?_
      refine x_iconst (pc' := 20) hE dX9_eatenAll_19 rfl ?_
      refine x_icmpne (tgt := 27) (pc' := 23) hE dX9_eatenAll_20 (by decide) rfl ⟨by omega, by omega⟩ ⟨by omega, by omega⟩ (fun h2 => ?_) (fun h2 => ?_)
      · refine x_iconst (pc' := 28) hE dX9_eatenAll_27 rfl ?_
        refine x_iadd (pc' := 29) hE dX9_eatenAll_28 rfl ?_
        refine x_istore_n (pc' := 30) hE dX9_eatenAll_29 rfl (by decide) rfl rfl ?_
        dsimp only [List.set]
        refine x_iinc (pc' := 33) hE dX9_eatenAll_30 rfl rfl (by decide) rfl rfl ?_
        dsimp only [List.set]
        refine x_goto (tgt := 4) hE dX9_eatenAll_33 (by decide) ?_
        refine x_lve (lv' := [some (.ref (aM G 0)), some (.int (iN (cntU (fun f => decide (τ 8 0 0 f ≠ -1)) (k + 1).toNat))), some (.int (iN (k + 1)))]) ?_ (ih (n - 1) (by omega) (k + 1) (by omega) (by omega) (by omega))
        rw [cntU_s _ g0]
        simp [h1, h2]
      · refine x_iconst (pc' := 24) hE dX9_eatenAll_23 rfl ?_
        refine x_goto (tgt := 28) hE dX9_eatenAll_24 (by decide) ?_
        refine x_iadd (pc' := 29) hE dX9_eatenAll_28 rfl ?_
        refine x_istore_n (pc' := 30) hE dX9_eatenAll_29 rfl (by decide) rfl rfl ?_
        dsimp only [List.set]
        refine x_iinc (pc' := 33) hE dX9_eatenAll_30 rfl rfl (by decide) rfl rfl ?_
        dsimp only [List.set]
        refine x_goto (tgt := 4) hE dX9_eatenAll_33 (by decide) ?_
        refine x_lve (lv' := [some (.ref (aM G 0)), some (.int (iN (cntU (fun f => decide (τ 8 0 0 f ≠ -1)) (k + 1).toNat))), some (.int (iN (k + 1)))]) ?_ (ih (n - 1) (by omega) (k + 1) (by omega) (by omega) (by omega))
        rw [cntU_s _ g0]
        simp [h1, h2]
  refine x_iconst (pc' := 1) hE dX9_eatenAll_0 rfl ?_
  refine x_istore_n (pc' := 2) hE dX9_eatenAll_1 rfl (by decide) rfl rfl ?_
  dsimp only [List.set]
  refine x_iconst (pc' := 3) hE dX9_eatenAll_2 rfl ?_
  refine x_istore_n (pc' := 4) hE dX9_eatenAll_3 rfl (by decide) rfl rfl ?_
  dsimp only [List.set]
  exact loop (τ 0 0 0 9).toNat 0 (by omega) (by omega) (by omega)
