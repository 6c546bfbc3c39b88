/-! the class beside the reference -/
def RS (σ : St) (w : Nat) (pk fr sn : Int) (S : Int → Int) : Prop := σ 10 w 0 0 = pk ∧ σ 10 w 0 1 = fr ∧ σ 10 w 0 2 = sn ∧ σ 10 w 0 3 = mk8 (fun j => decide (j < sn) && decide (S j ≠ 0))
def RC (σ τ : St) : Prop := RP σ (τ 10 0 0) (τ 0 0 0 18) ∧ (σ 3 0 0 1 = τ 0 0 0 1 ∧ RF σ (fv τ)) ∧ RW σ 0 (wv τ) ∧ RS σ 0 (τ 0 0 0 13) (τ 0 0 0 14) (τ 0 0 0 15) (τ 9 0 0) ∧ σ 0 0 0 6 = τ 0 0 0 30 ∧ (τ 0 0 0 30 = 1 → RW σ 1 (kv τ) ∧ RS σ 1 (τ 0 0 0 34) (τ 0 0 0 35) (τ 0 0 0 36) (τ 16 0 0)) ∧ σ 0 0 0 7 = τ 0 0 0 0 ∧ σ 0 0 0 8 = τ 0 0 0 17
theorem RP.u {σ σ' : St} {pg : Int → Int} {n : Int} (h : RP σ pg n) (h1 : σ' 1 0 0 1 = σ 1 0 0 1) (h2 : ∀ k, σ' 2 0 0 k = σ 2 0 0 k) : RP σ' pg n := ⟨by rw [h1]; exact h.1, fun k k0 k1 => by rw [h2]; exact h.2 k k0 k1⟩
theorem RF.u {σ σ' : St} {F : Int → Bool} (h : RF σ F) (h4 : ∀ d, σ' 4 0 0 d = σ 4 0 0 d) : RF σ' F := ⟨fun d d0 d1 => by rw [h4]; exact h.1 d d0 d1, h.2⟩
theorem RW.u {σ σ' : St} {w : Nat} {W : Wd} (h : RW σ w W) (hu : ∀ a c d, (a = 6 ∨ a = 9 ∨ a = 11 ∨ a = 12) → σ' a w c d = σ a w c d) : RW σ' w W := by
  obtain ⟨h1, h2, h3, h4, h5, h6, h7⟩ := h
  refine ⟨by rw [hu _ _ _ (by omega)]; exact h1, by rw [hu _ _ _ (by omega)]; exact h2, by rw [hu _ _ _ (by omega)]; exact h3, by rw [hu _ _ _ (by omega)]; exact h4, fun p p0 p1 => ?_, fun f f0 f1 => ?_, fun c c0 c1 => ?_⟩
  · rw [hu _ _ _ (by omega), hu _ _ _ (by omega), hu _ _ _ (by omega)]; exact h5 p p0 p1
  · rw [hu _ _ _ (by omega), hu _ _ _ (by omega), hu _ _ _ (by omega)]; exact h6 f f0 f1
  · rw [hu _ _ _ (by omega)]; exact h7 c c0 c1
theorem RW.c {σ : St} {w : Nat} {W W' : Wd} (h : RW σ w W) (e0 : W' 0 0 = W 0 0) (e1 : W' 0 1 = W 0 1) (e2 : W' 0 2 = W 0 2) (ep : ∀ p, 0 ≤ p → p < W 0 0 → W' 1 p = W 1 p ∧ W' 2 p = W 2 p ∧ W' 3 p = W 3 p) (ef : ∀ f, W' 4 f = W 4 f ∧ W' 5 f = W 5 f ∧ W' 6 f = W 6 f) (ec : ∀ c, W' 7 c = W 7 c) : RW σ w W' := by
  obtain ⟨h1, h2, h3, h4, h5, h6, h7⟩ := h
  refine ⟨by rw [e0]; exact h1, by rw [e1]; exact h2, by rw [e2]; exact h3, ?_, fun p p0 p1 => ?_, fun f f0 f1 => ?_, fun c c0 c1 => by rw [ec]; exact h7 c c0 c1⟩
  · rw [h4]
    refine mk5_c (fun j _ _ => ?_)
    unfold eaQ
    rw [e1, (ef j).2.2]
  · rw [e0] at p1
    obtain ⟨a, b, c⟩ := ep p p0 p1
    rw [a, b, c]
    exact h5 p p0 p1
  · rw [e1] at f1
    obtain ⟨a, b, c⟩ := ef f
    rw [a, b, c]
    exact h6 f f0 f1
theorem RS.u {σ σ' : St} {w : Nat} {pk fr sn : Int} {S : Int → Int} (h : RS σ w pk fr sn S) (hu : ∀ d, σ' 10 w 0 d = σ 10 w 0 d) : RS σ' w pk fr sn S := ⟨by rw [hu]; exact h.1, by rw [hu]; exact h.2.1, by rw [hu]; exact h.2.2.1, by rw [hu]; exact h.2.2.2⟩
theorem wv_c {τ τ' : St} (h3 : τ' 0 0 0 3 = τ 0 0 0 3) (h5 : τ' 0 0 0 5 = τ 0 0 0 5) (h9 : τ' 0 0 0 9 = τ 0 0 0 9) (hr : ∀ (k : Nat) j, 2 ≤ k → k ≤ 8 → τ' k 0 0 j = τ k 0 0 j) : wv τ' = wv τ := by
  funext r i
  unfold wv
  split
  · rw [h5, h9, h3]
  · split
    · exact hr 2 i (by omega) (by omega)
    · split
      · exact hr (r + 2) i (by omega) (by omega)
      · rfl
theorem kv_c {τ τ' : St} (h1 : τ' 0 0 0 31 = τ 0 0 0 31) (h2 : τ' 0 0 0 32 = τ 0 0 0 32) (h3 : τ' 0 0 0 33 = τ 0 0 0 33) (hr : ∀ (k : Nat) j, (3 ≤ k ∧ k ≤ 5) ∨ (17 ≤ k ∧ k ≤ 20) → τ' k 0 0 j = τ k 0 0 j) : kv τ' = kv τ := by
  funext r i
  unfold kv
  split
  · rw [h1, h2, h3]
  · split
    · exact hr 17 i (by omega)
    · split
      · exact hr (r + 2) i (by omega)
      · split
        · exact hr (r + 14) i (by omega)
        · rfl
theorem fv_c {τ τ' : St} (h1 : τ' 0 0 0 1 = τ 0 0 0 1) (hr : ∀ j, τ' 1 0 0 j = τ 1 0 0 j) : fv τ' = fv τ := by
  unfold fv
  rw [h1, show τ' 1 0 0 = τ 1 0 0 from funext hr]
theorem Sd.kv {τ τ' : St} (h : Sd τ τ') : kv τ' = kv τ := kv_c (h.at 0 31 (by omega)) (h.at 0 32 (by omega)) (h.at 0 33 (by omega)) (fun k j q => h.at k j (by omega))
theorem Sd.rc {σ τ τ' : St} (h : Sd τ τ') (hC : RC σ τ) : RC σ τ' := by
  have r9 : τ' 9 0 0 = τ 9 0 0 := funext fun j => h.at 9 j (by omega)
  have r10 : τ' 10 0 0 = τ 10 0 0 := funext fun j => h.at 10 j (by omega)
  have r16 : τ' 16 0 0 = τ 16 0 0 := funext fun j => h.at 16 j (by omega)
  unfold RC
  rw [h.wv, h.fv, h.kv, r9, r10, r16, h.at 0 0 (by omega), h.at 0 1 (by omega), h.at 0 13 (by omega), h.at 0 14 (by omega), h.at 0 15 (by omega), h.at 0 17 (by omega), h.at 0 18 (by omega), h.at 0 30 (by omega), h.at 0 34 (by omega), h.at 0 35 (by omega), h.at 0 36 (by omega)]
  exact hC
theorem Sd.im {B : Int} {τ τ' : St} (h : Sd τ τ') (hI : IM B τ) : IM B τ' := by
  have hF := h.fok hI.2.1
  have r7 : τ' 7 0 0 = τ 7 0 0 := funext fun j => h.at 7 j (by omega)
  have r9 : τ' 9 0 0 = τ 9 0 0 := funext fun j => h.at 9 j (by omega)
  have r10 : τ' 10 0 0 = τ 10 0 0 := funext fun j => h.at 10 j (by omega)
  have r16 : τ' 16 0 0 = τ 16 0 0 := funext fun j => h.at 16 j (by omega)
  have r19 : τ' 19 0 0 = τ 19 0 0 := funext fun j => h.at 19 j (by omega)
  obtain ⟨a, -, b⟩ := hI
  refine ⟨by rw [h.wv]; exact a, hF, ?_⟩
  rw [h.kv, r7, r9, r10, r16, r19, h.at 0 0 (by omega), h.at 0 5 (by omega), h.at 0 13 (by omega), h.at 0 14 (by omega), h.at 0 15 (by omega), h.at 0 17 (by omega), h.at 0 18 (by omega), h.at 0 30 (by omega), h.at 0 32 (by omega), h.at 0 34 (by omega), h.at 0 35 (by omega), h.at 0 36 (by omega)]
  exact b
/-- nothing but the try's world is touched -/
theorem RC.try {σ σ' τ : St} (hC : RC σ τ) (h : FrA 2 σ σ') : RC σ' τ := by
  obtain ⟨cP, ⟨cN, cF⟩, cW, cS, cI, cK, cR, cA⟩ := hC
  refine ⟨cP.u (h _ _ _ _ (by omega)) (fun k => h _ _ _ _ (by omega)), ⟨by rw [h _ _ _ _ (by omega)]; exact cN, cF.u (fun d => h _ _ _ _ (by omega))⟩, cW.u (fun a c d q => h _ _ _ _ (by omega)), cS.u (fun d => h _ _ _ _ (by omega)), by rw [h _ _ _ _ (by omega)]; exact cI, fun q => ⟨(cK q).1.u (fun a c d q => h _ _ _ _ (by omega)), (cK q).2.u (fun d => h _ _ _ _ (by omega))⟩, by rw [h _ _ _ _ (by omega)]; exact cR, by rw [h _ _ _ _ (by omega)]; exact cA⟩
theorem isF_per (fn : Int) (fo : Int → Int) {d : Int} : isF fn fo (d % 210) = isF fn fo d := by
  unfold isF
  refine anyU_c _ (fun k _ _ => ?_)
  rw [show d % 210 % 30 = d % 30 by omega, show d % 210 % 7 = d % 7 by omega]
