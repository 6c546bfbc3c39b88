/-! day, feasts, image, restore: the new states -/
theorem RC_day {σ σ' τ : St} (hC : RC σ τ) (hW' : RW σ' 0 (goD (fv τ) (wv τ))) (hf : FrD 0 σ σ') : RC σ' (goT τ) := by
  obtain ⟨cP, ⟨cN, cF⟩, cW, cS, cI, cK, cR, cA⟩ := hC
  have g : ∀ (a : Nat) (d : Int), a ≠ 8 → ¬ (a = 0 ∧ d = 3) → goT τ a 0 0 d = τ a 0 0 d := fun a d h1 h2 => goT_o τ h1 0 0 d (by omega)
  have gr : ∀ a : Nat, a ≠ 8 → a ≠ 0 → goT τ a 0 0 = τ a 0 0 := fun a h1 h2 => funext fun d => g a d h1 (by omega)
  have gk : kv (goT τ) = kv τ := kv_c (g 0 31 (by decide) (by decide)) (g 0 32 (by decide) (by decide)) (g 0 33 (by decide) (by decide)) (fun k j q => g k j (by omega) (by omega))
  unfold RC
  rw [gr 10 (by decide) (by decide), gr 9 (by decide) (by decide), gr 16 (by decide) (by decide), gk, fv_goT, wv_goT, g 0 0 (by decide) (by decide), g 0 1 (by decide) (by decide), g 0 13 (by decide) (by decide), g 0 14 (by decide) (by decide), g 0 15 (by decide) (by decide), g 0 17 (by decide) (by decide), g 0 18 (by decide) (by decide), g 0 30 (by decide) (by decide), g 0 34 (by decide) (by decide), g 0 35 (by decide) (by decide), g 0 36 (by decide) (by decide)]
  refine ⟨cP.u (hf _ _ _ _ (by omega)) (fun k => hf _ _ _ _ (by omega)), ⟨by rw [hf _ _ _ _ (by omega)]; exact cN, cF.u (fun d => hf _ _ _ _ (by omega))⟩, hW', cS.u (fun d => hf _ _ _ _ (by omega)), by rw [hf _ _ _ _ (by omega)]; exact cI, fun q => ⟨(cK q).1.u (fun a c d q => hf _ _ _ _ (by omega)), (cK q).2.u (fun d => hf _ _ _ _ (by omega))⟩, by rw [hf _ _ _ _ (by omega)]; exact cR, by rw [hf _ _ _ _ (by omega)]; exact cA⟩
theorem IM_day {B : Int} {τ : St} (hI : IM B τ) : IM (B + 1) (goT τ) := by
  obtain ⟨hW, hF, hrd, hak, hpl, hpg, hwt, hfr, hsn, hso, hce, hkp, hkk⟩ := hI.mono (show B ≤ B + 1 by omega)
  have hW0 := hI.1
  have g : ∀ (a : Nat) (d : Int), a ≠ 8 → ¬ (a = 0 ∧ d = 3) → goT τ a 0 0 d = τ a 0 0 d := fun a d h1 h2 => goT_o τ h1 0 0 d (by omega)
  have gr : ∀ a : Nat, a ≠ 8 → a ≠ 0 → goT τ a 0 0 = τ a 0 0 := fun a h1 h2 => funext fun d => g a d h1 (by omega)
  have gk : kv (goT τ) = kv τ := kv_c (g 0 31 (by decide) (by decide)) (g 0 32 (by decide) (by decide)) (g 0 33 (by decide) (by decide)) (fun k j q => g k j (by omega) (by omega))
  refine ⟨by rw [wv_goT]; exact goD_ok hW0, goT_fok hF, ?_⟩
  rw [gr 10 (by decide) (by decide), gr 9 (by decide) (by decide), gr 7 (by decide) (by decide), gr 16 (by decide) (by decide), gr 19 (by decide) (by decide), gk, g 0 0 (by decide) (by decide), g 0 5 (by decide) (by decide), g 0 13 (by decide) (by decide), g 0 14 (by decide) (by decide), g 0 15 (by decide) (by decide), g 0 17 (by decide) (by decide), g 0 18 (by decide) (by decide), g 0 30 (by decide) (by decide), g 0 32 (by decide) (by decide), g 0 34 (by decide) (by decide), g 0 35 (by decide) (by decide), g 0 36 (by decide) (by decide)]
  exact ⟨hrd, hak, hpl, hpg, hwt, hfr, hsn, hso, hce, hkp, hkk⟩
theorem sFeB_n (τ : St) {a b : Nat} {c d : Int} (h : ¬ (a = 1 ∧ b = 0 ∧ c = 0)) (h2 : ¬ (a = 0 ∧ b = 0 ∧ c = 0 ∧ (d = 0 ∨ d = 1 ∨ d = 18))) : sFeB τ a b c d = τ a b c d := by
  unfold sFeB
  rw [if_neg h, up_n (by omega), up_n (by omega), up_n (by omega)]
theorem sFeB_e (τ : St) : sFeB τ 0 0 0 0 = τ 0 0 0 0 + 1 ∧ sFeB τ 0 0 0 1 = (τ 0 0 0 18 + 1) / 4 ∧ sFeB τ 0 0 0 18 = 0 ∧ sFeB τ 1 0 0 = cdF (τ 10 0 0) := by
  refine ⟨?_, ?_, ?_, ?_⟩
  · unfold sFeB
    rw [if_neg (by omega), up_n (by omega), up_s]
  · unfold sFeB
    rw [if_neg (by omega), up_n (by omega), up_n (by omega), up_s]
  · unfold sFeB
    rw [if_neg (by omega), up_s]
  · funext d
    unfold sFeB
    rw [if_pos (by omega)]
theorem fv_sFeB (τ : St) : fv (sFeB τ) = isF ((τ 0 0 0 18 + 1) / 4) (cdF (τ 10 0 0)) := by
  obtain ⟨-, e1, -, e3⟩ := sFeB_e τ
  unfold fv
  rw [e1, e3]
theorem wv_sFeB (τ : St) : wv (sFeB τ) = wv τ := wv_c (sFeB_n τ (by omega) (by omega)) (sFeB_n τ (by omega) (by omega)) (sFeB_n τ (by omega) (by omega)) (fun k j q1 q2 => sFeB_n τ (by omega) (by omega))
theorem kv_sFeB (τ : St) : kv (sFeB τ) = kv τ := kv_c (sFeB_n τ (by omega) (by omega)) (sFeB_n τ (by omega) (by omega)) (sFeB_n τ (by omega) (by omega)) (fun k j q => sFeB_n τ (by omega) (by omega))
theorem RC_feasts {σ S τ : St} (hC : RC σ τ) (hN : S 3 0 0 1 = (τ 0 0 0 18 + 1) / 4) (hm : ∀ d, 0 ≤ d → d < 210 → S 4 0 0 d = if isF ((τ 0 0 0 18 + 1) / 4) (cdF (τ 10 0 0)) d then 1 else 0) (hf : FrF σ S) : RC (up (up S 1 0 0 1 0) 0 0 0 7 (τ 0 0 0 0 + 1)) (sFeB τ) := by
  obtain ⟨cP, ⟨cN, cF⟩, cW, cS, cI, cK, cR, cA⟩ := hC
  obtain ⟨e0, e1, e18, er⟩ := sFeB_e τ
  have gr : ∀ a : Nat, a ≠ 1 → a ≠ 0 → sFeB τ a 0 0 = τ a 0 0 := fun a h1 h2 => funext fun d => sFeB_n τ (by omega) (by omega)
  have g : ∀ d : Int, d ≠ 0 → d ≠ 1 → d ≠ 18 → sFeB τ 0 0 0 d = τ 0 0 0 d := fun d h1 h2 h3 => sFeB_n τ (by omega) (by omega)
  have hs : ∀ a b c d, ¬ ((a = 3 ∨ a = 4) ∧ b = 0 ∧ c = 0) → ¬ (a = 1 ∧ b = 0 ∧ c = 0 ∧ d = 1) → ¬ (a = 0 ∧ b = 0 ∧ c = 0 ∧ d = 7) → (up (up S 1 0 0 1 0) 0 0 0 7 (τ 0 0 0 0 + 1)) a b c d = σ a b c d := fun a b c d h1 h2 h3 => by
    rw [up_n h3, up_n h2]
    exact hf a b c d h1
  unfold RC
  rw [e0, e1, e18, fv_sFeB, wv_sFeB, kv_sFeB, gr 10 (by decide) (by decide), gr 9 (by decide) (by decide), gr 16 (by decide) (by decide), g 13 (by decide) (by decide) (by decide), g 14 (by decide) (by decide) (by decide), g 15 (by decide) (by decide) (by decide), g 17 (by decide) (by decide) (by decide), g 30 (by decide) (by decide) (by decide), g 34 (by decide) (by decide) (by decide), g 35 (by decide) (by decide) (by decide), g 36 (by decide) (by decide) (by decide)]
  refine ⟨⟨by rw [up_n (by omega), up_s], fun k k0 k1 => by rw [hs _ _ _ _ (by omega) (by omega) (by omega)]; exact cP.2 k k0 k1⟩, ⟨by rw [up_n (by omega), up_n (by omega)]; exact hN, fun d d0 d1 => by rw [up_n (by omega), up_n (by omega)]; exact hm d d0 d1, fun d d0 => isF_per _ _⟩, cW.u (fun a c d q => hs _ _ _ _ (by omega) (by omega) (by omega)), cS.u (fun d => hs _ _ _ _ (by omega) (by omega) (by omega)), by rw [hs _ _ _ _ (by omega) (by omega) (by omega)]; exact cI, fun q => ⟨(cK q).1.u (fun a c d q => hs _ _ _ _ (by omega) (by omega) (by omega)), (cK q).2.u (fun d => hs _ _ _ _ (by omega) (by omega) (by omega))⟩, up_s _ _ _ _ _ _, by rw [hs _ _ _ _ (by omega) (by omega) (by omega)]; exact cA⟩
theorem IM_feasts {B : Int} {τ : St} (hI : IM B τ) (hl : τ 0 0 0 18 ≤ 23) : IM (B + 1) (sFeB τ) := by
  have hrd0 := hI.2.2.1
  obtain ⟨hW, hF, hrd, hak, hpl, hpg, hwt, hfr, hsn, hso, hce, hkp, hkk⟩ := hI.mono (show B ≤ B + 1 by omega)
  obtain ⟨e0, e1, e18, er⟩ := sFeB_e τ
  have gr : ∀ a : Nat, a ≠ 1 → a ≠ 0 → sFeB τ a 0 0 = τ a 0 0 := fun a h1 h2 => funext fun d => sFeB_n τ (by omega) (by omega)
  have g : ∀ d : Int, d ≠ 0 → d ≠ 1 → d ≠ 18 → sFeB τ 0 0 0 d = τ 0 0 0 d := fun d h1 h2 h3 => sFeB_n τ (by omega) (by omega)
  refine ⟨by rw [wv_sFeB]; exact hW, ?_, ?_⟩
  · rw [e1, er]
    refine ⟨by omega, fun k k0 k1 => ?_⟩
    have a := hpg (4 * k) (by omega) (by omega)
    have b := hpg (4 * k + 1) (by omega) (by omega)
    have c := hpg (4 * k + 2) (by omega) (by omega)
    unfold cdF
    split <;> omega
  · rw [e0, e18, gr 10 (by decide) (by decide), gr 9 (by decide) (by decide), gr 7 (by decide) (by decide), gr 16 (by decide) (by decide), gr 19 (by decide) (by decide), kv_sFeB, g 5 (by decide) (by decide) (by decide), g 13 (by decide) (by decide) (by decide), g 14 (by decide) (by decide) (by decide), g 15 (by decide) (by decide) (by decide), g 17 (by decide) (by decide) (by decide), g 30 (by decide) (by decide) (by decide), g 32 (by decide) (by decide) (by decide), g 34 (by decide) (by decide) (by decide), g 35 (by decide) (by decide) (by decide), g 36 (by decide) (by decide) (by decide)]
    exact ⟨by omega, hak, by omega, hpg, hwt, hfr, hsn, hso, hce, hkp, hkk⟩
