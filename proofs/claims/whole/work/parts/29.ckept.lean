theorem RW.c2 {σ : St} {w : Nat} {W W' : Wd} (h : RW σ w W) (hn : W 0 1 ≤ 5) (e0 : W' 0 0 = W 0 0) (e1 : W' 0 1 = W 0 1) (e2 : W' 0 2 = W 0 2) (ep : ∀ p, 0 ≤ p → p < W 0 0 → W' 1 p = W 1 p ∧ W' 2 p = W 2 p ∧ W' 3 p = W 3 p) (ef : ∀ f, 0 ≤ f → f < 5 → W' 4 f = W 4 f ∧ W' 5 f = W 5 f ∧ W' 6 f = W 6 f) (ec : ∀ c, 0 ≤ c → c < 8 → W' 7 c = W 7 c) : RW σ w W' := by
  obtain ⟨h1, h2, h3, h4, h5, h6, h7⟩ := h
  refine ⟨by rw [e0]; exact h1, by rw [e1]; exact h2, by rw [e2]; exact h3, ?_, fun p p0 p1 => ?_, fun f f0 f1 => ?_, fun c c0 c1 => by rw [ec c c0 c1]; exact h7 c c0 c1⟩
  · rw [h4]
    refine mk5_c (fun j j0 j1 => ?_)
    unfold eaQ
    rw [e1, (ef j j0 j1).2.2]
  · rw [e0] at p1
    obtain ⟨a, b, c⟩ := ep p p0 p1
    rw [a, b, c]
    exact h5 p p0 p1
  · rw [e1] at f1
    obtain ⟨a, b, c⟩ := ef f f0 (by omega)
    rw [a, b, c]
    exact h6 f f0 f1
theorem WOk.c2 {D : Int} {W W' : Wd} (h : WOk D W) (e0 : W' 0 0 = W 0 0) (e1 : W' 0 1 = W 0 1) (e2 : W' 0 2 = W 0 2) (ep : ∀ p, W' 1 p = W 1 p ∧ W' 2 p = W 2 p ∧ W' 3 p = W 3 p) (ef : ∀ f, 0 ≤ f → f < 5 → W' 4 f = W 4 f ∧ W' 5 f = W 5 f ∧ W' 6 f = W 6 f) (ec : ∀ c, 0 ≤ c → c < 8 → W' 7 c = W 7 c) : WOk D W' := by
  obtain ⟨a, b, x, y, z, u⟩ := h
  refine ⟨by rw [e0]; exact a, by rw [e1]; exact b, by rw [e2]; exact x, fun p p0 p1 => ?_, fun f f0 f1 => ?_, fun c c0 c1 => by rw [ec c c0 c1]; exact u c c0 c1⟩
  · obtain ⟨q1, q2, q3⟩ := ep p
    rw [q1, q2, q3]
    exact y p p0 p1
  · obtain ⟨q1, q2, q3⟩ := ef f f0 f1
    rw [q1, q2, q3]
    exact z f f0 f1
theorem RS.c {σ : St} {w : Nat} {pk fr sn : Int} {S S' : Int → Int} (h : RS σ w pk fr sn S) (e : ∀ j, 0 ≤ j → j < 8 → S' j = S j) : RS σ w pk fr sn S' := by
  obtain ⟨a, b, c, d⟩ := h
  refine ⟨a, b, c, ?_⟩
  rw [d]
  exact mk8_c (fun j j0 j1 => by rw [e j j0 j1])
theorem RS.w {σ σ' : St} {w w' : Nat} {pk fr sn : Int} {S : Int → Int} (h : RS σ w pk fr sn S) (e : ∀ j, 0 ≤ j → j < 4 → σ' 10 w' 0 j = σ 10 w 0 j) : RS σ' w' pk fr sn S := by
  obtain ⟨a, b, c, d⟩ := h
  exact ⟨by rw [e 0 (by omega) (by omega)]; exact a, by rw [e 1 (by omega) (by omega)]; exact b, by rw [e 2 (by omega) (by omega)]; exact c, by rw [e 3 (by omega) (by omega)]; exact d⟩
def reT (τ : St) : St := reB (reA (re0 τ) 8) 5
theorem si_n (τ : St) {a : Nat} {d : Int} (h : ¬ (a = 0 ∧ (d = 30 ∨ d = 31 ∨ d = 32 ∨ d = 33 ∨ d = 34 ∨ d = 35 ∨ d = 36))) (h2 : a ≠ 17 ∧ a ≠ 16 ∧ a ≠ 18 ∧ a ≠ 19 ∧ a ≠ 20) : sImage τ a 0 0 d = τ a 0 0 d := by
  have e0 : im0 τ a 0 0 d = τ a 0 0 d := by
    unfold im0
    repeat rw [up_n (by omega)]
  show imB (imA (im0 τ) 8) 5 a 0 0 d = _
  unfold imB imA
  obtain ⟨g0, g1, g2, g3, g4⟩ := h2
  simp [g0, g1, g2, g3, g4, e0]
theorem si_30 (τ : St) : sImage τ 0 0 0 30 = 1 := by simp [sImage, imB, imA, im0, up]
theorem si_31 (τ : St) : sImage τ 0 0 0 31 = τ 0 0 0 3 := by simp [sImage, imB, imA, im0, up]
theorem si_32 (τ : St) : sImage τ 0 0 0 32 = τ 0 0 0 5 := by simp [sImage, imB, imA, im0, up]
theorem si_33 (τ : St) : sImage τ 0 0 0 33 = τ 0 0 0 9 := by simp [sImage, imB, imA, im0, up]
theorem si_34 (τ : St) : sImage τ 0 0 0 34 = τ 0 0 0 13 := by simp [sImage, imB, imA, im0, up]
theorem si_35 (τ : St) : sImage τ 0 0 0 35 = τ 0 0 0 14 := by simp [sImage, imB, imA, im0, up]
theorem si_36 (τ : St) : sImage τ 0 0 0 36 = τ 0 0 0 15 := by simp [sImage, imB, imA, im0, up]
theorem si_r17 (τ : St) {d : Int} (h0 : 0 ≤ d) (h1 : d < 8) : sImage τ 17 0 0 d = τ 2 0 0 d := by simp [sImage, imB, imA, im0, up, h0, h1]
theorem si_r16 (τ : St) {d : Int} (h0 : 0 ≤ d) (h1 : d < 8) : sImage τ 16 0 0 d = τ 9 0 0 d := by simp [sImage, imB, imA, im0, up, h0, h1]
theorem si_r18 (τ : St) {d : Int} (h0 : 0 ≤ d) (h1 : d < 5) : sImage τ 18 0 0 d = τ 6 0 0 d := by simp [sImage, imB, imA, im0, up, h0, h1]
theorem si_r19 (τ : St) {d : Int} (h0 : 0 ≤ d) (h1 : d < 5) : sImage τ 19 0 0 d = τ 7 0 0 d := by simp [sImage, imB, imA, im0, up, h0, h1]
theorem si_r20 (τ : St) {d : Int} (h0 : 0 ≤ d) (h1 : d < 5) : sImage τ 20 0 0 d = τ 8 0 0 d := by simp [sImage, imB, imA, im0, up, h0, h1]
theorem sr_n (τ : St) {a : Nat} {d : Int} (h : ¬ (a = 0 ∧ (d = 3 ∨ d = 5 ∨ d = 9 ∨ d = 13 ∨ d = 14 ∨ d = 15))) (h2 : a ≠ 2 ∧ a ≠ 9 ∧ a ≠ 6 ∧ a ≠ 7 ∧ a ≠ 8) : reT τ a 0 0 d = τ a 0 0 d := by
  have e0 : re0 τ a 0 0 d = τ a 0 0 d := by
    unfold re0
    repeat rw [up_n (by omega)]
  show reB (reA (re0 τ) 8) 5 a 0 0 d = _
  unfold reB reA
  obtain ⟨g0, g1, g2, g3, g4⟩ := h2
  simp [g0, g1, g2, g3, g4, e0]
theorem sr_3 (τ : St) : reT τ 0 0 0 3 = τ 0 0 0 31 := by simp [reT, reB, reA, re0, up]
theorem sr_5 (τ : St) : reT τ 0 0 0 5 = τ 0 0 0 32 := by simp [reT, reB, reA, re0, up]
theorem sr_9 (τ : St) : reT τ 0 0 0 9 = τ 0 0 0 33 := by simp [reT, reB, reA, re0, up]
theorem sr_13 (τ : St) : reT τ 0 0 0 13 = τ 0 0 0 34 := by simp [reT, reB, reA, re0, up]
theorem sr_14 (τ : St) : reT τ 0 0 0 14 = τ 0 0 0 35 := by simp [reT, reB, reA, re0, up]
theorem sr_15 (τ : St) : reT τ 0 0 0 15 = τ 0 0 0 36 := by simp [reT, reB, reA, re0, up]
theorem sr_r2 (τ : St) {d : Int} (h0 : 0 ≤ d) (h1 : d < 8) : reT τ 2 0 0 d = τ 17 0 0 d := by simp [reT, reB, reA, re0, up, h0, h1]
theorem sr_r9 (τ : St) {d : Int} (h0 : 0 ≤ d) (h1 : d < 8) : reT τ 9 0 0 d = τ 16 0 0 d := by simp [reT, reB, reA, re0, up, h0, h1]
theorem sr_r6 (τ : St) {d : Int} (h0 : 0 ≤ d) (h1 : d < 5) : reT τ 6 0 0 d = τ 18 0 0 d := by simp [reT, reB, reA, re0, up, h0, h1]
theorem sr_r7 (τ : St) {d : Int} (h0 : 0 ≤ d) (h1 : d < 5) : reT τ 7 0 0 d = τ 19 0 0 d := by simp [reT, reB, reA, re0, up, h0, h1]
theorem sr_r8 (τ : St) {d : Int} (h0 : 0 ≤ d) (h1 : d < 5) : reT τ 8 0 0 d = τ 20 0 0 d := by simp [reT, reB, reA, re0, up, h0, h1]
theorem wv_si (τ : St) : wv (sImage τ) = wv τ := wv_c (si_n τ (by omega) (by omega)) (si_n τ (by omega) (by omega)) (si_n τ (by omega) (by omega)) (fun k j q1 q2 => si_n τ (by omega) (by omega))
theorem fv_si (τ : St) : fv (sImage τ) = fv τ := fv_c (si_n τ (by omega) (by omega)) (fun j => si_n τ (by omega) (by omega))
theorem kv_si (τ : St) : kv (sImage τ) 0 0 = wv τ 0 0 ∧ kv (sImage τ) 0 1 = wv τ 0 1 ∧ kv (sImage τ) 0 2 = wv τ 0 2 ∧ (∀ p, kv (sImage τ) 1 p = wv τ 1 p ∧ kv (sImage τ) 2 p = wv τ 2 p ∧ kv (sImage τ) 3 p = wv τ 3 p) ∧ (∀ f, 0 ≤ f → f < 5 → kv (sImage τ) 4 f = wv τ 4 f ∧ kv (sImage τ) 5 f = wv τ 5 f ∧ kv (sImage τ) 6 f = wv τ 6 f) ∧ (∀ c, 0 ≤ c → c < 8 → kv (sImage τ) 7 c = wv τ 7 c) := by
  refine ⟨si_32 τ, si_33 τ, si_31 τ, fun p => ⟨?_, ?_, ?_⟩, fun f f0 f1 => ⟨si_r18 τ f0 f1, si_r19 τ f0 f1, si_r20 τ f0 f1⟩, fun c c0 c1 => si_r17 τ c0 c1⟩
  · show sImage τ 3 0 0 p = τ 3 0 0 p
    exact si_n τ (by omega) (by omega)
  · show sImage τ 4 0 0 p = τ 4 0 0 p
    exact si_n τ (by omega) (by omega)
  · show sImage τ 5 0 0 p = τ 5 0 0 p
    exact si_n τ (by omega) (by omega)
theorem kv_sr (τ : St) : kv (reT τ) = kv τ := kv_c (sr_n τ (by omega) (by omega)) (sr_n τ (by omega) (by omega)) (sr_n τ (by omega) (by omega)) (fun k j q => sr_n τ (by omega) (by omega))
theorem fv_sr (τ : St) : fv (reT τ) = fv τ := fv_c (sr_n τ (by omega) (by omega)) (fun j => sr_n τ (by omega) (by omega))
theorem wv_sr (τ : St) : wv (reT τ) 0 0 = kv τ 0 0 ∧ wv (reT τ) 0 1 = kv τ 0 1 ∧ wv (reT τ) 0 2 = kv τ 0 2 ∧ (∀ p, wv (reT τ) 1 p = kv τ 1 p ∧ wv (reT τ) 2 p = kv τ 2 p ∧ wv (reT τ) 3 p = kv τ 3 p) ∧ (∀ f, 0 ≤ f → f < 5 → wv (reT τ) 4 f = kv τ 4 f ∧ wv (reT τ) 5 f = kv τ 5 f ∧ wv (reT τ) 6 f = kv τ 6 f) ∧ (∀ c, 0 ≤ c → c < 8 → wv (reT τ) 7 c = kv τ 7 c) := by
  refine ⟨sr_5 τ, sr_9 τ, sr_3 τ, fun p => ⟨?_, ?_, ?_⟩, fun f f0 f1 => ⟨sr_r6 τ f0 f1, sr_r7 τ f0 f1, sr_r8 τ f0 f1⟩, fun c c0 c1 => sr_r2 τ c0 c1⟩
  · show reT τ 3 0 0 p = τ 3 0 0 p
    exact sr_n τ (by omega) (by omega)
  · show reT τ 4 0 0 p = τ 4 0 0 p
    exact sr_n τ (by omega) (by omega)
  · show reT τ 5 0 0 p = τ 5 0 0 p
    exact sr_n τ (by omega) (by omega)
theorem RC_image {σ S τ : St} {B : Int} (hC : RC σ τ) (hW : WOk B (wv τ)) (hf : FrA 1 σ S) (hR : RW S 1 (wv τ)) (hs : ∀ j, 0 ≤ j → j < 4 → S 10 1 0 j = σ 10 0 0 j) : RC (up S 0 0 0 6 1) (sImage τ) := by
  obtain ⟨cP, ⟨cN, cF⟩, cW, cS, cI, cK, cR, cA⟩ := hC
  have g : ∀ d : Int, ¬ (30 ≤ d ∧ d ≤ 36) → sImage τ 0 0 0 d = τ 0 0 0 d := fun d h => si_n τ (by omega) (by omega)
  have r9 : sImage τ 9 0 0 = τ 9 0 0 := funext fun d => si_n τ (by omega) (by omega)
  have r10 : sImage τ 10 0 0 = τ 10 0 0 := funext fun d => si_n τ (by omega) (by omega)
  have hh : ∀ a b c d, ¬ (b = 1 ∧ 6 ≤ a) → ¬ (a = 0 ∧ b = 0 ∧ c = 0 ∧ d = 6) → up S 0 0 0 6 1 a b c d = σ a b c d := fun a b c d h1 h2 => by
    rw [up_n h2]
    exact hf a b c d h1
  unfold RC
  rw [r9, r10, wv_si, fv_si, g 0 (by omega), g 1 (by omega), g 13 (by omega), g 14 (by omega), g 15 (by omega), g 17 (by omega), g 18 (by omega), si_30, si_34, si_35, si_36]
  obtain ⟨k0, k1, k2, kp, kf, kc⟩ := kv_si τ
  refine ⟨cP.u (hh _ _ _ _ (by omega) (by omega)) (fun k => hh _ _ _ _ (by omega) (by omega)), ⟨by rw [hh _ _ _ _ (by omega) (by omega)]; exact cN, cF.u (fun d => hh _ _ _ _ (by omega) (by omega))⟩, cW.u (fun a c d q => hh _ _ _ _ (by omega) (by omega)), cS.u (fun d => hh _ _ _ _ (by omega) (by omega)), up_s _ _ _ _ _ _, fun _ => ⟨?_, ?_⟩, by rw [hh _ _ _ _ (by omega) (by omega)]; exact cR, by rw [hh _ _ _ _ (by omega) (by omega)]; exact cA⟩
  · have hR2 : RW (up S 0 0 0 6 1) 1 (wv τ) := hR.u (fun a c d q => up_n (by omega))
    exact hR2.c2 hW.2.1.2 k0 k1 k2 (fun p _ _ => kp p) kf kc
  · have h1 : RS (up S 0 0 0 6 1) 1 (τ 0 0 0 13) (τ 0 0 0 14) (τ 0 0 0 15) (τ 9 0 0) := cS.w (fun j j0 j1 => by rw [up_n (by omega)]; exact hs j j0 j1)
    exact h1.c (fun j j0 j1 => si_r16 τ j0 j1)
theorem IM_image {B : Int} {τ : St} (hI : IM B τ) : IM B (sImage τ) := by
  obtain ⟨hW, hF, hrd, hak, hpl, hpg, hwt, hfr, hsn, hso, hce, hkp, hkk⟩ := hI
  have g : ∀ d : Int, ¬ (30 ≤ d ∧ d ≤ 36) → sImage τ 0 0 0 d = τ 0 0 0 d := fun d h => si_n τ (by omega) (by omega)
  have r1 : sImage τ 1 0 0 = τ 1 0 0 := funext fun d => si_n τ (by omega) (by omega)
  have r7 : sImage τ 7 0 0 = τ 7 0 0 := funext fun d => si_n τ (by omega) (by omega)
  have r9 : sImage τ 9 0 0 = τ 9 0 0 := funext fun d => si_n τ (by omega) (by omega)
  have r10 : sImage τ 10 0 0 = τ 10 0 0 := funext fun d => si_n τ (by omega) (by omega)
  obtain ⟨k0, k1, k2, kp, kf, kc⟩ := kv_si τ
  have hd : 0 ≤ τ 0 0 0 3 ∧ τ 0 0 0 3 ≤ B := hW.2.2.1
  refine ⟨by rw [wv_si]; exact hW, by rw [g 1 (by omega), r1]; exact hF, ?_⟩
  rw [r7, r9, r10, g 0 (by omega), g 5 (by omega), g 13 (by omega), g 14 (by omega), g 15 (by omega), g 17 (by omega), g 18 (by omega), si_30, si_32, si_34, si_35, si_36]
  refine ⟨hrd, hak, hpl, hpg, hwt, hfr, hsn, hso, hce, by omega, fun _ => ⟨hW.c2 k0 k1 k2 kp kf kc, by omega, hwt, hfr, hsn, fun j j0 j1 => ?_, fun f f0 f1 => ?_⟩⟩
  · rw [si_r16 τ j0 j1]
    exact hso j j0 j1
  · rw [si_r19 τ f0 f1]
    exact hce f f0 f1
theorem RC_restore {σ S τ : St} {B : Int} (hC : RC σ τ) (hk : τ 0 0 0 30 = 1) (hW : WOk B (kv τ)) (hf : FrA 0 σ S) (hR : RW S 0 (kv τ)) (hs : ∀ j, 0 ≤ j → j < 4 → S 10 0 0 j = σ 10 1 0 j) : RC S (reT τ) := by
  obtain ⟨cP, ⟨cN, cF⟩, cW, cS, cI, cK, cR, cA⟩ := hC
  obtain ⟨cK1, cK2⟩ := cK hk
  have g : ∀ d : Int, ¬ (d = 3 ∨ d = 5 ∨ d = 9 ∨ d = 13 ∨ d = 14 ∨ d = 15) → reT τ 0 0 0 d = τ 0 0 0 d := fun d h => sr_n τ (by omega) (by omega)
  have r10 : reT τ 10 0 0 = τ 10 0 0 := funext fun d => sr_n τ (by omega) (by omega)
  have r16 : reT τ 16 0 0 = τ 16 0 0 := funext fun d => sr_n τ (by omega) (by omega)
  unfold RC
  rw [r10, r16, kv_sr, fv_sr, g 0 (by omega), g 1 (by omega), g 17 (by omega), g 18 (by omega), g 30 (by omega), g 34 (by omega), g 35 (by omega), g 36 (by omega), sr_13, sr_14, sr_15]
  obtain ⟨k0, k1, k2, kp, kf, kc⟩ := wv_sr τ
  refine ⟨cP.u (hf _ _ _ _ (by omega)) (fun k => hf _ _ _ _ (by omega)), ⟨by rw [hf _ _ _ _ (by omega)]; exact cN, cF.u (fun d => hf _ _ _ _ (by omega))⟩, hR.c2 hW.2.1.2 k0 k1 k2 (fun p _ _ => kp p) kf kc, ?_, by rw [hf _ _ _ _ (by omega)]; exact cI, fun _ => ⟨cK1.u (fun a c d q => hf _ _ _ _ (by omega)), cK2.u (fun d => hf _ _ _ _ (by omega))⟩, by rw [hf _ _ _ _ (by omega)]; exact cR, by rw [hf _ _ _ _ (by omega)]; exact cA⟩
  have h1 : RS S 0 (τ 0 0 0 34) (τ 0 0 0 35) (τ 0 0 0 36) (τ 16 0 0) := cK2.w hs
  exact h1.c (fun j j0 j1 => sr_r9 τ j0 j1)
theorem IM_restore {B : Int} {τ : St} (hI : IM B τ) (hk : τ 0 0 0 30 = 1) : IM B (reT τ) := by
  obtain ⟨hW, hF, hrd, hak, hpl, hpg, hwt, hfr, hsn, hso, hce, hkp, hkk⟩ := hI
  obtain ⟨m1, m2, m3, m4, m5, m6, m7⟩ := hkk hk
  have g : ∀ d : Int, ¬ (d = 3 ∨ d = 5 ∨ d = 9 ∨ d = 13 ∨ d = 14 ∨ d = 15) → reT τ 0 0 0 d = τ 0 0 0 d := fun d h => sr_n τ (by omega) (by omega)
  have r1 : reT τ 1 0 0 = τ 1 0 0 := funext fun d => sr_n τ (by omega) (by omega)
  have r10 : reT τ 10 0 0 = τ 10 0 0 := funext fun d => sr_n τ (by omega) (by omega)
  have r16 : reT τ 16 0 0 = τ 16 0 0 := funext fun d => sr_n τ (by omega) (by omega)
  have r19 : reT τ 19 0 0 = τ 19 0 0 := funext fun d => sr_n τ (by omega) (by omega)
  obtain ⟨k0, k1, k2, kp, kf, kc⟩ := wv_sr τ
  refine ⟨m1.c2 k0 k1 k2 kp kf kc, by rw [g 1 (by omega), r1]; exact hF, ?_⟩
  rw [r10, r16, r19, kv_sr, g 0 (by omega), g 17 (by omega), g 18 (by omega), g 30 (by omega), g 32 (by omega), g 34 (by omega), g 35 (by omega), g 36 (by omega), sr_5, sr_13, sr_14, sr_15]
  refine ⟨hrd, hak, hpl, hpg, m3, m4, m5, fun j j0 j1 => ?_, fun f f0 f1 => ?_, hkp, fun _ => ⟨m1, by omega, m3, m4, m5, m6, m7⟩⟩
  · rw [sr_r9 τ j0 j1]
    exact m6 j j0 j1
  · rw [sr_r7 τ f0 f1]
    exact m7 f f0 f1
theorem sRestore_e {τ : St} (h : τ 0 0 0 30 ≠ 0) : sRestore τ = reT τ := by
  unfold sRestore
  rw [if_neg h]
  rfl
