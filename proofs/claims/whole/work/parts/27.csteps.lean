theorem IM.mono {B B' : Int} {τ : St} (h : IM B τ) (hB : B ≤ B') : IM B' τ := by
  obtain ⟨hW, hF, hrd, hak, hpl, hpg, hwt, hfr, hsn, hso, hce, hkp, hkk⟩ := h
  refine ⟨WOk_mono hW hB, hF, by omega, hak, hpl, hpg, hwt, by omega, hsn, hso, hce, hkp, fun q => ?_⟩
  obtain ⟨a, b, c, d, e⟩ := hkk q
  exact ⟨WOk_mono a hB, b, c, by omega, e⟩
theorem wv_upR (τ : St) {k : Nat} (h0 : 3 ≤ k) (h1 : k ≤ 8) (i v : Int) : wv (up τ k 0 0 i v) = wu (wv τ) (k - 2) i v := by
  funext r x
  unfold wu wv
  by_cases e0 : r = 0
  · subst e0
    rw [if_pos rfl, if_pos rfl, if_neg (show ¬ ((0 : Nat) = k - 2 ∧ x = i) by omega), up_n (by omega), up_n (by omega), up_n (by omega)]
  · rw [if_neg e0, if_neg e0]
    by_cases e7 : r = 7
    · subst e7
      rw [if_pos rfl, if_pos rfl, if_neg (show ¬ ((7 : Nat) = k - 2 ∧ x = i) by omega), up_n (by omega)]
    · rw [if_neg e7, if_neg e7]
      by_cases e8 : r < 7
      · rw [if_pos e8, if_pos e8]
        by_cases e : r = k - 2 ∧ x = i
        · rw [if_pos e]
          obtain ⟨a, b⟩ := e
          rw [b, show r + 2 = k by omega, up_s]
        · rw [if_neg e, up_n (by omega)]
      · rw [if_neg e8, if_neg e8, if_neg (show ¬ (r = k - 2 ∧ x = i) by omega)]
theorem wv_up05 (τ : St) (v : Int) : wv (up τ 0 0 0 5 v) = wu (wv τ) 0 0 v := by
  funext r x
  unfold wu wv
  by_cases e0 : r = 0
  · subst e0
    rw [if_pos rfl, if_pos rfl, up_s, up_n (by omega), up_n (by omega)]
    by_cases e : x = 0
    · rw [if_pos e, if_pos (show (0 : Nat) = 0 ∧ x = 0 from ⟨rfl, e⟩)]
    · rw [if_neg e, if_neg (show ¬ ((0 : Nat) = 0 ∧ x = 0) from fun q => e q.2), if_neg e]
  · rw [if_neg e0, if_neg e0, if_neg (show ¬ (r = 0 ∧ x = 0) from fun q => e0 q.1), up_n (by omega), up_n (by omega)]
theorem wv_up09 (τ : St) (v : Int) : wv (up τ 0 0 0 9 v) = wu (wv τ) 0 1 v := by
  funext r x
  unfold wu wv
  by_cases e0 : r = 0
  · subst e0
    rw [if_pos rfl, if_pos rfl, up_s, up_n (by omega), up_n (by omega)]
    by_cases e : x = 0
    · rw [if_pos e, if_neg (show ¬ ((0 : Nat) = 0 ∧ x = 1) by omega), if_pos e]
    · rw [if_neg e, if_neg e]
      by_cases e1 : x = 1
      · rw [if_pos e1, if_pos (show (0 : Nat) = 0 ∧ x = 1 from ⟨rfl, e1⟩)]
      · rw [if_neg e1, if_neg (show ¬ ((0 : Nat) = 0 ∧ x = 1) from fun q => e1 q.2), if_neg e1]
  · rw [if_neg e0, if_neg e0, if_neg (show ¬ (r = 0 ∧ x = 1) from fun q => e0 q.1), up_n (by omega), up_n (by omega)]
theorem wv_sPk (τ : St) (k c g : Int) : wv (sPkB τ k c g) = wu (wu (wu (wu (wv τ) 1 (τ 0 0 0 5) k) 2 (τ 0 0 0 5) c) 3 (τ 0 0 0 5) g) 0 0 (τ 0 0 0 5 + 1) := by
  unfold sPkB
  rw [wv_up05, wv_upR _ (by decide) (by decide), wv_upR _ (by decide) (by decide), wv_upR _ (by decide) (by decide)]
theorem wv_sFl (τ : St) (n c : Int) : wv (sFlB τ n c) = wu (wu (wu (wu (wv τ) 4 (τ 0 0 0 9) n) 5 (τ 0 0 0 9) c) 6 (τ 0 0 0 9) (-1)) 0 1 (τ 0 0 0 9 + 1) := by
  unfold sFlB
  rw [wv_up09, wv_upR _ (by decide) (by decide), wv_upR _ (by decide) (by decide), wv_upR _ (by decide) (by decide)]
theorem RW_forge {σ : St} {w : Nat} {W : Wd} {c d : Int} (h : RW σ w W) : RW (up σ 9 w 0 c d) w (wu W 7 c d) := by
  obtain ⟨h1, h2, h3, h4, h5, h6, h7⟩ := h
  have hr : ∀ (r : Nat) (i : Int), r ≠ 7 → wu W 7 c d r i = W r i := fun r i q => wu_r q
  refine ⟨by rw [up_n (by omega), hr _ _ (by decide)]; exact h1, by rw [up_n (by omega), hr _ _ (by decide)]; exact h2, by rw [up_n (by omega), hr _ _ (by decide)]; exact h3, ?_, fun p p0 p1 => ?_, fun g g0 g1 => ?_, fun x x0 x1 => ?_⟩
  · rw [up_n (by omega), h4]
    refine mk5_c (fun j _ _ => ?_)
    unfold eaQ
    rw [hr _ _ (by decide), hr _ _ (by decide)]
  · rw [hr _ _ (by decide)] at p1
    rw [up_n (by omega), up_n (by omega), up_n (by omega), hr _ _ (by decide), hr _ _ (by decide), hr _ _ (by decide)]
    exact h5 p p0 p1
  · rw [hr _ _ (by decide)] at g1
    rw [up_n (by omega), up_n (by omega), up_n (by omega), hr _ _ (by decide), hr _ _ (by decide), hr _ _ (by decide)]
    exact h6 g g0 g1
  · by_cases e : x = c
    · rw [e, up_s, wu_s]
    · rw [up_n (by omega), wu_i e]
      exact h7 x x0 x1
theorem RW_name {σ : St} {w : Nat} {W : Wd} {f n : Int} (h : RW σ w W) : RW (up σ 12 w f 0 n) w (wu W 4 f n) := by
  obtain ⟨h1, h2, h3, h4, h5, h6, h7⟩ := h
  have hr : ∀ (r : Nat) (i : Int), r ≠ 4 → wu W 4 f n r i = W r i := fun r i q => wu_r q
  refine ⟨by rw [up_n (by omega), hr _ _ (by decide)]; exact h1, by rw [up_n (by omega), hr _ _ (by decide)]; exact h2, by rw [up_n (by omega), hr _ _ (by decide)]; exact h3, ?_, fun p p0 p1 => ?_, fun g g0 g1 => ?_, fun x x0 x1 => ?_⟩
  · rw [up_n (by omega), h4]
    refine mk5_c (fun j _ _ => ?_)
    unfold eaQ
    rw [hr _ _ (by decide), hr _ _ (by decide)]
  · rw [hr _ _ (by decide)] at p1
    rw [up_n (by omega), up_n (by omega), up_n (by omega), hr _ _ (by decide), hr _ _ (by decide), hr _ _ (by decide)]
    exact h5 p p0 p1
  · rw [hr _ _ (by decide)] at g1
    obtain ⟨a, b, c⟩ := h6 g g0 g1
    refine ⟨?_, by rw [up_n (by omega), hr _ _ (by decide)]; exact b, by rw [up_n (by omega), hr _ _ (by decide)]; exact c⟩
    by_cases e : g = f
    · rw [e, up_s, wu_s]
    · rw [up_n (by omega), wu_i e]
      exact a
  · rw [up_n (by omega), hr _ _ (by decide)]
    exact h7 x x0 x1
theorem RW_move {σ : St} {W : Wd} {f n : Int} (h : RW σ 0 W) : RW (up σ 12 0 f 1 n) 0 (wu W 5 f n) := by
  obtain ⟨h1, h2, h3, h4, h5, h6, h7⟩ := h
  have hr : ∀ (r : Nat) (i : Int), r ≠ 5 → wu W 5 f n r i = W r i := fun r i q => wu_r q
  refine ⟨by rw [up_n (by omega), hr _ _ (by decide)]; exact h1, by rw [up_n (by omega), hr _ _ (by decide)]; exact h2, by rw [up_n (by omega), hr _ _ (by decide)]; exact h3, ?_, fun p p0 p1 => ?_, fun g g0 g1 => ?_, fun x x0 x1 => ?_⟩
  · rw [up_n (by omega), h4]
    refine mk5_c (fun j _ _ => ?_)
    unfold eaQ
    rw [hr _ _ (by decide), hr _ _ (by decide)]
  · rw [hr _ _ (by decide)] at p1
    rw [up_n (by omega), up_n (by omega), up_n (by omega), hr _ _ (by decide), hr _ _ (by decide), hr _ _ (by decide)]
    exact h5 p p0 p1
  · rw [hr _ _ (by decide)] at g1
    obtain ⟨a, b, c⟩ := h6 g g0 g1
    refine ⟨by rw [up_n (by omega), hr _ _ (by decide)]; exact a, ?_, by rw [up_n (by omega), hr _ _ (by decide)]; exact c⟩
    by_cases e : g = f
    · rw [e, up_s, wu_s]
    · rw [up_n (by omega), wu_i e]
      exact b
  · rw [up_n (by omega), hr _ _ (by decide)]
    exact h7 x x0 x1
theorem RW_pack {σ : St} {W : Wd} {k c g n : Int} (h : RW σ 0 W) (hn : W 0 0 = n) : RW (up (up (up (up σ 11 0 n 0 k) 11 0 n 1 c) 11 0 n 2 g) 6 0 0 4 (n + 1)) 0 (wu (wu (wu (wu W 1 n k) 2 n c) 3 n g) 0 0 (n + 1)) := by
  obtain ⟨h1, h2, h3, h4, h5, h6, h7⟩ := h
  refine ⟨by rw [up_s, wu_s], ?_, ?_, ?_, fun p p0 p1 => ?_, fun f f0 f1 => ?_, fun x x0 x1 => ?_⟩
  · repeat rw [up_n (by omega)]
    simpa [wu] using h2
  · repeat rw [up_n (by omega)]
    simpa [wu] using h3
  · repeat rw [up_n (by omega)]
    rw [h4]
    refine mk5_c (fun j _ _ => ?_)
    unfold eaQ
    simp [wu]
  · rw [wu_s] at p1
    rw [up_n (a := 11) (by omega), up_n (a := 11) (by omega), up_n (a := 11) (by omega)]
    by_cases e : p = n
    · subst e
      simp [up, wu]
    · have := h5 p p0 (by omega)
      simpa [up, wu, e] using this
  · have f2 : f < W 0 1 := by simpa [wu] using f1
    have := h6 f f0 f2
    simpa [up, wu] using this
  · have := h7 x x0 x1
    simpa [up, wu] using this
theorem RW_flock {σ : St} {W : Wd} {n m c : Int} (h : RW σ 0 W) (hn : W 0 1 = n) : RW (up (up (up σ 12 0 n 0 m) 12 0 n 1 c) 6 0 0 5 (n + 1)) 0 (wu (wu (wu (wu W 4 n m) 5 n c) 6 n (-1)) 0 1 (n + 1)) := by
  obtain ⟨h1, h2, h3, h4, h5, h6, h7⟩ := h
  refine ⟨?_, by rw [up_s, wu_s], ?_, ?_, fun p p0 p1 => ?_, fun f f0 f1 => ?_, fun x x0 x1 => ?_⟩
  · repeat rw [up_n (by omega)]
    simpa [wu] using h1
  · repeat rw [up_n (by omega)]
    simpa [wu] using h3
  · repeat rw [up_n (by omega)]
    rw [h4]
    refine mk5_c (fun j _ _ => ?_)
    unfold eaQ
    by_cases e : j = n
    · subst e
      simp [wu, hn]
    · have e2 : (j < n + 1) ↔ (j < W 0 1) := by omega
      simp [wu, e, e2]
  · have p2 : p < W 0 0 := by simpa [wu] using p1
    have := h5 p p0 p2
    simpa [up, wu] using this
  · rw [wu_s] at f1
    by_cases e : f = n
    · subst e
      simp [up, wu]
    · have := h6 f f0 (by omega)
      simpa [up, wu, e] using this
  · have := h7 x x0 x1
    simpa [up, wu] using this
theorem mk8_c {p q : Int → Bool} (h : ∀ j, 0 ≤ j → j < 8 → p j = q j) : mk8 p = mk8 q := by
  unfold mk8
  rw [h 0 (by omega) (by omega), h 1 (by omega) (by omega), h 2 (by omega) (by omega), h 3 (by omega) (by omega), h 4 (by omega) (by omega), h 5 (by omega) (by omega), h 6 (by omega) (by omega), h 7 (by omega) (by omega)]
set_option maxHeartbeats 4000000 in
theorem RC_letter {σ τ : St} {c : Int} (hC : RC σ τ) : RC (up (up σ 2 0 0 (τ 0 0 0 18) c) 1 0 0 1 (τ 0 0 0 18 + 1)) (up (up τ 10 0 0 (τ 0 0 0 18) c) 0 0 0 18 (τ 0 0 0 18 + 1)) := by
  obtain ⟨cP, ⟨cN, cF⟩, cW, cS, cI, cK, cR, cA⟩ := hC
  refine ⟨by
    refine ⟨by rw [up_s, up_s], fun k k0 k1 => ?_⟩
    rw [up_n (kd := 1) (by omega), up_n (kd := 0) (by omega)]
    by_cases e : k = τ 0 0 0 18
    · rw [e, up_s, up_s]
    · rw [up_n (by omega), up_n (by omega)]
      exact cP.2 k k0 k1,
   ⟨by
    rw [show (up (up τ 10 0 0 (τ 0 0 0 18) c) 0 0 0 18 (τ 0 0 0 18 + 1)) 0 0 0 1 = τ 0 0 0 1 by repeat rw [up_n (by omega)], show (up (up σ 2 0 0 (τ 0 0 0 18) c) 1 0 0 1 (τ 0 0 0 18 + 1)) 3 0 0 1 = σ 3 0 0 1 by repeat rw [up_n (by omega)]]
    exact cN,
   by
    rw [fv_c (τ := τ) (τ' := (up (up τ 10 0 0 (τ 0 0 0 18) c) 0 0 0 18 (τ 0 0 0 18 + 1))) (by repeat rw [up_n (by omega)]) (by intros; repeat rw [up_n (by omega)])]
    exact cF.u (by intros; repeat rw [up_n (by omega)])⟩,
   by
    rw [wv_c (τ := τ) (τ' := (up (up τ 10 0 0 (τ 0 0 0 18) c) 0 0 0 18 (τ 0 0 0 18 + 1))) (by repeat rw [up_n (by omega)]) (by repeat rw [up_n (by omega)]) (by repeat rw [up_n (by omega)]) (by intros; repeat rw [up_n (by omega)])]
    exact cW.u (by intros; repeat rw [up_n (by omega)]),
   by
    rw [show (up (up τ 10 0 0 (τ 0 0 0 18) c) 0 0 0 18 (τ 0 0 0 18 + 1)) 9 0 0 = τ 9 0 0 from funext fun j => by repeat rw [up_n (by omega)], show (up (up τ 10 0 0 (τ 0 0 0 18) c) 0 0 0 18 (τ 0 0 0 18 + 1)) 0 0 0 13 = τ 0 0 0 13 by repeat rw [up_n (by omega)], show (up (up τ 10 0 0 (τ 0 0 0 18) c) 0 0 0 18 (τ 0 0 0 18 + 1)) 0 0 0 14 = τ 0 0 0 14 by repeat rw [up_n (by omega)], show (up (up τ 10 0 0 (τ 0 0 0 18) c) 0 0 0 18 (τ 0 0 0 18 + 1)) 0 0 0 15 = τ 0 0 0 15 by repeat rw [up_n (by omega)]]
    exact cS.u (by intros; repeat rw [up_n (by omega)]),
   by
    rw [show (up (up τ 10 0 0 (τ 0 0 0 18) c) 0 0 0 18 (τ 0 0 0 18 + 1)) 0 0 0 30 = τ 0 0 0 30 by repeat rw [up_n (by omega)], show (up (up σ 2 0 0 (τ 0 0 0 18) c) 1 0 0 1 (τ 0 0 0 18 + 1)) 0 0 0 6 = σ 0 0 0 6 by repeat rw [up_n (by omega)]]
    exact cI,
   by
    rw [show (up (up τ 10 0 0 (τ 0 0 0 18) c) 0 0 0 18 (τ 0 0 0 18 + 1)) 0 0 0 30 = τ 0 0 0 30 by repeat rw [up_n (by omega)], kv_c (τ := τ) (τ' := (up (up τ 10 0 0 (τ 0 0 0 18) c) 0 0 0 18 (τ 0 0 0 18 + 1))) (by repeat rw [up_n (by omega)]) (by repeat rw [up_n (by omega)]) (by repeat rw [up_n (by omega)]) (by intros; repeat rw [up_n (by omega)]), show (up (up τ 10 0 0 (τ 0 0 0 18) c) 0 0 0 18 (τ 0 0 0 18 + 1)) 16 0 0 = τ 16 0 0 from funext fun j => by repeat rw [up_n (by omega)], show (up (up τ 10 0 0 (τ 0 0 0 18) c) 0 0 0 18 (τ 0 0 0 18 + 1)) 0 0 0 34 = τ 0 0 0 34 by repeat rw [up_n (by omega)], show (up (up τ 10 0 0 (τ 0 0 0 18) c) 0 0 0 18 (τ 0 0 0 18 + 1)) 0 0 0 35 = τ 0 0 0 35 by repeat rw [up_n (by omega)], show (up (up τ 10 0 0 (τ 0 0 0 18) c) 0 0 0 18 (τ 0 0 0 18 + 1)) 0 0 0 36 = τ 0 0 0 36 by repeat rw [up_n (by omega)]]
    exact fun q => ⟨(cK q).1.u (by intros; repeat rw [up_n (by omega)]), (cK q).2.u (by intros; repeat rw [up_n (by omega)])⟩,
   by
    rw [show (up (up τ 10 0 0 (τ 0 0 0 18) c) 0 0 0 18 (τ 0 0 0 18 + 1)) 0 0 0 0 = τ 0 0 0 0 by repeat rw [up_n (by omega)], show (up (up σ 2 0 0 (τ 0 0 0 18) c) 1 0 0 1 (τ 0 0 0 18 + 1)) 0 0 0 7 = σ 0 0 0 7 by repeat rw [up_n (by omega)]]
    exact cR,
   by
    rw [show (up (up τ 10 0 0 (τ 0 0 0 18) c) 0 0 0 18 (τ 0 0 0 18 + 1)) 0 0 0 17 = τ 0 0 0 17 by repeat rw [up_n (by omega)], show (up (up σ 2 0 0 (τ 0 0 0 18) c) 1 0 0 1 (τ 0 0 0 18 + 1)) 0 0 0 8 = σ 0 0 0 8 by repeat rw [up_n (by omega)]]
    exact cA⟩
theorem IM_letter {B : Int} {τ : St} {c : Int} (hc : 32 ≤ c ∧ c ≤ 126) (hl : τ 0 0 0 18 ≠ 24) (hI : IM B τ) : IM B (up (up τ 10 0 0 (τ 0 0 0 18) c) 0 0 0 18 (τ 0 0 0 18 + 1)) := by
  obtain ⟨hW, hF, hrd, hak, hpl, hpg, hwt, hfr, hsn, hso, hce, hkp, hkk⟩ := hI
  refine ⟨by
    rw [wv_c (τ := τ) (τ' := (up (up τ 10 0 0 (τ 0 0 0 18) c) 0 0 0 18 (τ 0 0 0 18 + 1))) (by repeat rw [up_n (by omega)]) (by repeat rw [up_n (by omega)]) (by repeat rw [up_n (by omega)]) (by intros; repeat rw [up_n (by omega)])]
    exact hW,
   by
    rw [show (up (up τ 10 0 0 (τ 0 0 0 18) c) 0 0 0 18 (τ 0 0 0 18 + 1)) 0 0 0 1 = τ 0 0 0 1 by repeat rw [up_n (by omega)], show (up (up τ 10 0 0 (τ 0 0 0 18) c) 0 0 0 18 (τ 0 0 0 18 + 1)) 1 0 0 = τ 1 0 0 from funext fun j => by repeat rw [up_n (by omega)]]
    exact hF,
   by
    rw [show (up (up τ 10 0 0 (τ 0 0 0 18) c) 0 0 0 18 (τ 0 0 0 18 + 1)) 0 0 0 0 = τ 0 0 0 0 by repeat rw [up_n (by omega)]]
    exact hrd,
   by
    rw [show (up (up τ 10 0 0 (τ 0 0 0 18) c) 0 0 0 18 (τ 0 0 0 18 + 1)) 0 0 0 17 = τ 0 0 0 17 by repeat rw [up_n (by omega)]]
    exact hak,
   by
    rw [up_s]
    omega,
   fun k k0 k1 => by
    rw [up_n (by omega)]
    by_cases e : k = τ 0 0 0 18
    · rw [e, up_s]
      omega
    · rw [up_n (by omega)]
      exact hpg k k0 k1,
   by
    rw [show (up (up τ 10 0 0 (τ 0 0 0 18) c) 0 0 0 18 (τ 0 0 0 18 + 1)) 0 0 0 13 = τ 0 0 0 13 by repeat rw [up_n (by omega)], show (up (up τ 10 0 0 (τ 0 0 0 18) c) 0 0 0 18 (τ 0 0 0 18 + 1)) 0 0 0 5 = τ 0 0 0 5 by repeat rw [up_n (by omega)]]
    exact hwt,
   by
    rw [show (up (up τ 10 0 0 (τ 0 0 0 18) c) 0 0 0 18 (τ 0 0 0 18 + 1)) 0 0 0 14 = τ 0 0 0 14 by repeat rw [up_n (by omega)]]
    exact hfr,
   by
    rw [show (up (up τ 10 0 0 (τ 0 0 0 18) c) 0 0 0 18 (τ 0 0 0 18 + 1)) 0 0 0 15 = τ 0 0 0 15 by repeat rw [up_n (by omega)]]
    exact hsn,
   by
    rw [show (up (up τ 10 0 0 (τ 0 0 0 18) c) 0 0 0 18 (τ 0 0 0 18 + 1)) 9 0 0 = τ 9 0 0 from funext fun j => by repeat rw [up_n (by omega)]]
    exact hso,
   by
    rw [show (up (up τ 10 0 0 (τ 0 0 0 18) c) 0 0 0 18 (τ 0 0 0 18 + 1)) 7 0 0 = τ 7 0 0 from funext fun j => by repeat rw [up_n (by omega)]]
    exact hce,
   by
    rw [show (up (up τ 10 0 0 (τ 0 0 0 18) c) 0 0 0 18 (τ 0 0 0 18 + 1)) 0 0 0 30 = τ 0 0 0 30 by repeat rw [up_n (by omega)]]
    exact hkp,
   by
    rw [show (up (up τ 10 0 0 (τ 0 0 0 18) c) 0 0 0 18 (τ 0 0 0 18 + 1)) 0 0 0 30 = τ 0 0 0 30 by repeat rw [up_n (by omega)], kv_c (τ := τ) (τ' := (up (up τ 10 0 0 (τ 0 0 0 18) c) 0 0 0 18 (τ 0 0 0 18 + 1))) (by repeat rw [up_n (by omega)]) (by repeat rw [up_n (by omega)]) (by repeat rw [up_n (by omega)]) (by intros; repeat rw [up_n (by omega)]), show (up (up τ 10 0 0 (τ 0 0 0 18) c) 0 0 0 18 (τ 0 0 0 18 + 1)) 0 0 0 5 = τ 0 0 0 5 by repeat rw [up_n (by omega)], show (up (up τ 10 0 0 (τ 0 0 0 18) c) 0 0 0 18 (τ 0 0 0 18 + 1)) 0 0 0 32 = τ 0 0 0 32 by repeat rw [up_n (by omega)], show (up (up τ 10 0 0 (τ 0 0 0 18) c) 0 0 0 18 (τ 0 0 0 18 + 1)) 0 0 0 34 = τ 0 0 0 34 by repeat rw [up_n (by omega)], show (up (up τ 10 0 0 (τ 0 0 0 18) c) 0 0 0 18 (τ 0 0 0 18 + 1)) 0 0 0 35 = τ 0 0 0 35 by repeat rw [up_n (by omega)], show (up (up τ 10 0 0 (τ 0 0 0 18) c) 0 0 0 18 (τ 0 0 0 18 + 1)) 0 0 0 36 = τ 0 0 0 36 by repeat rw [up_n (by omega)], show (up (up τ 10 0 0 (τ 0 0 0 18) c) 0 0 0 18 (τ 0 0 0 18 + 1)) 16 0 0 = τ 16 0 0 from funext fun j => by repeat rw [up_n (by omega)], show (up (up τ 10 0 0 (τ 0 0 0 18) c) 0 0 0 18 (τ 0 0 0 18 + 1)) 19 0 0 = τ 19 0 0 from funext fun j => by repeat rw [up_n (by omega)]]
    exact hkk⟩
set_option maxHeartbeats 4000000 in
theorem RC_blank {σ τ : St}  (hC : RC σ τ) : RC (up σ 1 0 0 1 0) (up τ 0 0 0 18 0) := by
  obtain ⟨cP, ⟨cN, cF⟩, cW, cS, cI, cK, cR, cA⟩ := hC
  refine ⟨by
    refine ⟨by rw [up_s, up_s], fun k k0 k1 => ?_⟩
    rw [up_n (by omega), up_n (by omega)]
    exact cP.2 k k0 k1,
   ⟨by
    rw [show (up τ 0 0 0 18 0) 0 0 0 1 = τ 0 0 0 1 by repeat rw [up_n (by omega)], show (up σ 1 0 0 1 0) 3 0 0 1 = σ 3 0 0 1 by repeat rw [up_n (by omega)]]
    exact cN,
   by
    rw [fv_c (τ := τ) (τ' := (up τ 0 0 0 18 0)) (by repeat rw [up_n (by omega)]) (by intros; repeat rw [up_n (by omega)])]
    exact cF.u (by intros; repeat rw [up_n (by omega)])⟩,
   by
    rw [wv_c (τ := τ) (τ' := (up τ 0 0 0 18 0)) (by repeat rw [up_n (by omega)]) (by repeat rw [up_n (by omega)]) (by repeat rw [up_n (by omega)]) (by intros; repeat rw [up_n (by omega)])]
    exact cW.u (by intros; repeat rw [up_n (by omega)]),
   by
    rw [show (up τ 0 0 0 18 0) 9 0 0 = τ 9 0 0 from funext fun j => by repeat rw [up_n (by omega)], show (up τ 0 0 0 18 0) 0 0 0 13 = τ 0 0 0 13 by repeat rw [up_n (by omega)], show (up τ 0 0 0 18 0) 0 0 0 14 = τ 0 0 0 14 by repeat rw [up_n (by omega)], show (up τ 0 0 0 18 0) 0 0 0 15 = τ 0 0 0 15 by repeat rw [up_n (by omega)]]
    exact cS.u (by intros; repeat rw [up_n (by omega)]),
   by
    rw [show (up τ 0 0 0 18 0) 0 0 0 30 = τ 0 0 0 30 by repeat rw [up_n (by omega)], show (up σ 1 0 0 1 0) 0 0 0 6 = σ 0 0 0 6 by repeat rw [up_n (by omega)]]
    exact cI,
   by
    rw [show (up τ 0 0 0 18 0) 0 0 0 30 = τ 0 0 0 30 by repeat rw [up_n (by omega)], kv_c (τ := τ) (τ' := (up τ 0 0 0 18 0)) (by repeat rw [up_n (by omega)]) (by repeat rw [up_n (by omega)]) (by repeat rw [up_n (by omega)]) (by intros; repeat rw [up_n (by omega)]), show (up τ 0 0 0 18 0) 16 0 0 = τ 16 0 0 from funext fun j => by repeat rw [up_n (by omega)], show (up τ 0 0 0 18 0) 0 0 0 34 = τ 0 0 0 34 by repeat rw [up_n (by omega)], show (up τ 0 0 0 18 0) 0 0 0 35 = τ 0 0 0 35 by repeat rw [up_n (by omega)], show (up τ 0 0 0 18 0) 0 0 0 36 = τ 0 0 0 36 by repeat rw [up_n (by omega)]]
    exact fun q => ⟨(cK q).1.u (by intros; repeat rw [up_n (by omega)]), (cK q).2.u (by intros; repeat rw [up_n (by omega)])⟩,
   by
    rw [show (up τ 0 0 0 18 0) 0 0 0 0 = τ 0 0 0 0 by repeat rw [up_n (by omega)], show (up σ 1 0 0 1 0) 0 0 0 7 = σ 0 0 0 7 by repeat rw [up_n (by omega)]]
    exact cR,
   by
    rw [show (up τ 0 0 0 18 0) 0 0 0 17 = τ 0 0 0 17 by repeat rw [up_n (by omega)], show (up σ 1 0 0 1 0) 0 0 0 8 = σ 0 0 0 8 by repeat rw [up_n (by omega)]]
    exact cA⟩
theorem IM_blank {B : Int} {τ : St}  (hI : IM B τ) : IM B (up τ 0 0 0 18 0) := by
  obtain ⟨hW, hF, hrd, hak, hpl, hpg, hwt, hfr, hsn, hso, hce, hkp, hkk⟩ := hI
  refine ⟨by
    rw [wv_c (τ := τ) (τ' := (up τ 0 0 0 18 0)) (by repeat rw [up_n (by omega)]) (by repeat rw [up_n (by omega)]) (by repeat rw [up_n (by omega)]) (by intros; repeat rw [up_n (by omega)])]
    exact hW,
   by
    rw [show (up τ 0 0 0 18 0) 0 0 0 1 = τ 0 0 0 1 by repeat rw [up_n (by omega)], show (up τ 0 0 0 18 0) 1 0 0 = τ 1 0 0 from funext fun j => by repeat rw [up_n (by omega)]]
    exact hF,
   by
    rw [show (up τ 0 0 0 18 0) 0 0 0 0 = τ 0 0 0 0 by repeat rw [up_n (by omega)]]
    exact hrd,
   by
    rw [show (up τ 0 0 0 18 0) 0 0 0 17 = τ 0 0 0 17 by repeat rw [up_n (by omega)]]
    exact hak,
   by
    rw [up_s]
    omega,
   by
    rw [show (up τ 0 0 0 18 0) 10 0 0 = τ 10 0 0 from funext fun j => by repeat rw [up_n (by omega)]]
    exact hpg,
   by
    rw [show (up τ 0 0 0 18 0) 0 0 0 13 = τ 0 0 0 13 by repeat rw [up_n (by omega)], show (up τ 0 0 0 18 0) 0 0 0 5 = τ 0 0 0 5 by repeat rw [up_n (by omega)]]
    exact hwt,
   by
    rw [show (up τ 0 0 0 18 0) 0 0 0 14 = τ 0 0 0 14 by repeat rw [up_n (by omega)]]
    exact hfr,
   by
    rw [show (up τ 0 0 0 18 0) 0 0 0 15 = τ 0 0 0 15 by repeat rw [up_n (by omega)]]
    exact hsn,
   by
    rw [show (up τ 0 0 0 18 0) 9 0 0 = τ 9 0 0 from funext fun j => by repeat rw [up_n (by omega)]]
    exact hso,
   by
    rw [show (up τ 0 0 0 18 0) 7 0 0 = τ 7 0 0 from funext fun j => by repeat rw [up_n (by omega)]]
    exact hce,
   by
    rw [show (up τ 0 0 0 18 0) 0 0 0 30 = τ 0 0 0 30 by repeat rw [up_n (by omega)]]
    exact hkp,
   by
    rw [show (up τ 0 0 0 18 0) 0 0 0 30 = τ 0 0 0 30 by repeat rw [up_n (by omega)], kv_c (τ := τ) (τ' := (up τ 0 0 0 18 0)) (by repeat rw [up_n (by omega)]) (by repeat rw [up_n (by omega)]) (by repeat rw [up_n (by omega)]) (by intros; repeat rw [up_n (by omega)]), show (up τ 0 0 0 18 0) 0 0 0 5 = τ 0 0 0 5 by repeat rw [up_n (by omega)], show (up τ 0 0 0 18 0) 0 0 0 32 = τ 0 0 0 32 by repeat rw [up_n (by omega)], show (up τ 0 0 0 18 0) 0 0 0 34 = τ 0 0 0 34 by repeat rw [up_n (by omega)], show (up τ 0 0 0 18 0) 0 0 0 35 = τ 0 0 0 35 by repeat rw [up_n (by omega)], show (up τ 0 0 0 18 0) 0 0 0 36 = τ 0 0 0 36 by repeat rw [up_n (by omega)], show (up τ 0 0 0 18 0) 16 0 0 = τ 16 0 0 from funext fun j => by repeat rw [up_n (by omega)], show (up τ 0 0 0 18 0) 19 0 0 = τ 19 0 0 from funext fun j => by repeat rw [up_n (by omega)]]
    exact hkk⟩
set_option maxHeartbeats 4000000 in
theorem RC_forge {σ τ : St} {c d : Int} (hC : RC σ τ) : RC (up σ 9 0 0 c d) (up τ 2 0 0 c d) := by
  obtain ⟨cP, ⟨cN, cF⟩, cW, cS, cI, cK, cR, cA⟩ := hC
  refine ⟨by
    rw [show (up τ 2 0 0 c d) 10 0 0 = τ 10 0 0 from funext fun j => by repeat rw [up_n (by omega)], show (up τ 2 0 0 c d) 0 0 0 18 = τ 0 0 0 18 by repeat rw [up_n (by omega)]]
    exact cP.u (by repeat rw [up_n (by omega)]) (by intros; repeat rw [up_n (by omega)]),
   ⟨by
    rw [show (up τ 2 0 0 c d) 0 0 0 1 = τ 0 0 0 1 by repeat rw [up_n (by omega)], show (up σ 9 0 0 c d) 3 0 0 1 = σ 3 0 0 1 by repeat rw [up_n (by omega)]]
    exact cN,
   by
    rw [fv_c (τ := τ) (τ' := (up τ 2 0 0 c d)) (by repeat rw [up_n (by omega)]) (by intros; repeat rw [up_n (by omega)])]
    exact cF.u (by intros; repeat rw [up_n (by omega)])⟩,
   by
    rw [wv_up2]
    exact RW_forge cW,
   by
    rw [show (up τ 2 0 0 c d) 9 0 0 = τ 9 0 0 from funext fun j => by repeat rw [up_n (by omega)], show (up τ 2 0 0 c d) 0 0 0 13 = τ 0 0 0 13 by repeat rw [up_n (by omega)], show (up τ 2 0 0 c d) 0 0 0 14 = τ 0 0 0 14 by repeat rw [up_n (by omega)], show (up τ 2 0 0 c d) 0 0 0 15 = τ 0 0 0 15 by repeat rw [up_n (by omega)]]
    exact cS.u (by intros; repeat rw [up_n (by omega)]),
   by
    rw [show (up τ 2 0 0 c d) 0 0 0 30 = τ 0 0 0 30 by repeat rw [up_n (by omega)], show (up σ 9 0 0 c d) 0 0 0 6 = σ 0 0 0 6 by repeat rw [up_n (by omega)]]
    exact cI,
   by
    rw [show (up τ 2 0 0 c d) 0 0 0 30 = τ 0 0 0 30 by repeat rw [up_n (by omega)], kv_c (τ := τ) (τ' := (up τ 2 0 0 c d)) (by repeat rw [up_n (by omega)]) (by repeat rw [up_n (by omega)]) (by repeat rw [up_n (by omega)]) (by intros; repeat rw [up_n (by omega)]), show (up τ 2 0 0 c d) 16 0 0 = τ 16 0 0 from funext fun j => by repeat rw [up_n (by omega)], show (up τ 2 0 0 c d) 0 0 0 34 = τ 0 0 0 34 by repeat rw [up_n (by omega)], show (up τ 2 0 0 c d) 0 0 0 35 = τ 0 0 0 35 by repeat rw [up_n (by omega)], show (up τ 2 0 0 c d) 0 0 0 36 = τ 0 0 0 36 by repeat rw [up_n (by omega)]]
    exact fun q => ⟨(cK q).1.u (by intros; repeat rw [up_n (by omega)]), (cK q).2.u (by intros; repeat rw [up_n (by omega)])⟩,
   by
    rw [show (up τ 2 0 0 c d) 0 0 0 0 = τ 0 0 0 0 by repeat rw [up_n (by omega)], show (up σ 9 0 0 c d) 0 0 0 7 = σ 0 0 0 7 by repeat rw [up_n (by omega)]]
    exact cR,
   by
    rw [show (up τ 2 0 0 c d) 0 0 0 17 = τ 0 0 0 17 by repeat rw [up_n (by omega)], show (up σ 9 0 0 c d) 0 0 0 8 = σ 0 0 0 8 by repeat rw [up_n (by omega)]]
    exact cA⟩
theorem IM_forge {B : Int} {τ : St} {c d : Int} (hd : 0 ≤ d ∧ d ≤ 29) (hI : IM B τ) : IM B (up τ 2 0 0 c d) := by
  obtain ⟨hW, hF, hrd, hak, hpl, hpg, hwt, hfr, hsn, hso, hce, hkp, hkk⟩ := hI
  refine ⟨by
    rw [wv_up2]
    exact wu7_ok hW hd.1 hd.2,
   by
    rw [show (up τ 2 0 0 c d) 0 0 0 1 = τ 0 0 0 1 by repeat rw [up_n (by omega)], show (up τ 2 0 0 c d) 1 0 0 = τ 1 0 0 from funext fun j => by repeat rw [up_n (by omega)]]
    exact hF,
   by
    rw [show (up τ 2 0 0 c d) 0 0 0 0 = τ 0 0 0 0 by repeat rw [up_n (by omega)]]
    exact hrd,
   by
    rw [show (up τ 2 0 0 c d) 0 0 0 17 = τ 0 0 0 17 by repeat rw [up_n (by omega)]]
    exact hak,
   by
    rw [show (up τ 2 0 0 c d) 0 0 0 18 = τ 0 0 0 18 by repeat rw [up_n (by omega)]]
    exact hpl,
   by
    rw [show (up τ 2 0 0 c d) 10 0 0 = τ 10 0 0 from funext fun j => by repeat rw [up_n (by omega)]]
    exact hpg,
   by
    rw [show (up τ 2 0 0 c d) 0 0 0 13 = τ 0 0 0 13 by repeat rw [up_n (by omega)], show (up τ 2 0 0 c d) 0 0 0 5 = τ 0 0 0 5 by repeat rw [up_n (by omega)]]
    exact hwt,
   by
    rw [show (up τ 2 0 0 c d) 0 0 0 14 = τ 0 0 0 14 by repeat rw [up_n (by omega)]]
    exact hfr,
   by
    rw [show (up τ 2 0 0 c d) 0 0 0 15 = τ 0 0 0 15 by repeat rw [up_n (by omega)]]
    exact hsn,
   by
    rw [show (up τ 2 0 0 c d) 9 0 0 = τ 9 0 0 from funext fun j => by repeat rw [up_n (by omega)]]
    exact hso,
   by
    rw [show (up τ 2 0 0 c d) 7 0 0 = τ 7 0 0 from funext fun j => by repeat rw [up_n (by omega)]]
    exact hce,
   by
    rw [show (up τ 2 0 0 c d) 0 0 0 30 = τ 0 0 0 30 by repeat rw [up_n (by omega)]]
    exact hkp,
   by
    rw [show (up τ 2 0 0 c d) 0 0 0 30 = τ 0 0 0 30 by repeat rw [up_n (by omega)], kv_c (τ := τ) (τ' := (up τ 2 0 0 c d)) (by repeat rw [up_n (by omega)]) (by repeat rw [up_n (by omega)]) (by repeat rw [up_n (by omega)]) (by intros; repeat rw [up_n (by omega)]), show (up τ 2 0 0 c d) 0 0 0 5 = τ 0 0 0 5 by repeat rw [up_n (by omega)], show (up τ 2 0 0 c d) 0 0 0 32 = τ 0 0 0 32 by repeat rw [up_n (by omega)], show (up τ 2 0 0 c d) 0 0 0 34 = τ 0 0 0 34 by repeat rw [up_n (by omega)], show (up τ 2 0 0 c d) 0 0 0 35 = τ 0 0 0 35 by repeat rw [up_n (by omega)], show (up τ 2 0 0 c d) 0 0 0 36 = τ 0 0 0 36 by repeat rw [up_n (by omega)], show (up τ 2 0 0 c d) 16 0 0 = τ 16 0 0 from funext fun j => by repeat rw [up_n (by omega)], show (up τ 2 0 0 c d) 19 0 0 = τ 19 0 0 from funext fun j => by repeat rw [up_n (by omega)]]
    exact hkk⟩
set_option maxHeartbeats 4000000 in
theorem RC_name {σ τ : St} {f n : Int} (hC : RC σ τ) : RC (up σ 12 0 f 0 n) (up τ 6 0 0 f n) := by
  obtain ⟨cP, ⟨cN, cF⟩, cW, cS, cI, cK, cR, cA⟩ := hC
  refine ⟨by
    rw [show (up τ 6 0 0 f n) 10 0 0 = τ 10 0 0 from funext fun j => by repeat rw [up_n (by omega)], show (up τ 6 0 0 f n) 0 0 0 18 = τ 0 0 0 18 by repeat rw [up_n (by omega)]]
    exact cP.u (by repeat rw [up_n (by omega)]) (by intros; repeat rw [up_n (by omega)]),
   ⟨by
    rw [show (up τ 6 0 0 f n) 0 0 0 1 = τ 0 0 0 1 by repeat rw [up_n (by omega)], show (up σ 12 0 f 0 n) 3 0 0 1 = σ 3 0 0 1 by repeat rw [up_n (by omega)]]
    exact cN,
   by
    rw [fv_c (τ := τ) (τ' := (up τ 6 0 0 f n)) (by repeat rw [up_n (by omega)]) (by intros; repeat rw [up_n (by omega)])]
    exact cF.u (by intros; repeat rw [up_n (by omega)])⟩,
   by
    rw [wv_up6]
    exact RW_name cW,
   by
    rw [show (up τ 6 0 0 f n) 9 0 0 = τ 9 0 0 from funext fun j => by repeat rw [up_n (by omega)], show (up τ 6 0 0 f n) 0 0 0 13 = τ 0 0 0 13 by repeat rw [up_n (by omega)], show (up τ 6 0 0 f n) 0 0 0 14 = τ 0 0 0 14 by repeat rw [up_n (by omega)], show (up τ 6 0 0 f n) 0 0 0 15 = τ 0 0 0 15 by repeat rw [up_n (by omega)]]
    exact cS.u (by intros; repeat rw [up_n (by omega)]),
   by
    rw [show (up τ 6 0 0 f n) 0 0 0 30 = τ 0 0 0 30 by repeat rw [up_n (by omega)], show (up σ 12 0 f 0 n) 0 0 0 6 = σ 0 0 0 6 by repeat rw [up_n (by omega)]]
    exact cI,
   by
    rw [show (up τ 6 0 0 f n) 0 0 0 30 = τ 0 0 0 30 by repeat rw [up_n (by omega)], kv_c (τ := τ) (τ' := (up τ 6 0 0 f n)) (by repeat rw [up_n (by omega)]) (by repeat rw [up_n (by omega)]) (by repeat rw [up_n (by omega)]) (by intros; repeat rw [up_n (by omega)]), show (up τ 6 0 0 f n) 16 0 0 = τ 16 0 0 from funext fun j => by repeat rw [up_n (by omega)], show (up τ 6 0 0 f n) 0 0 0 34 = τ 0 0 0 34 by repeat rw [up_n (by omega)], show (up τ 6 0 0 f n) 0 0 0 35 = τ 0 0 0 35 by repeat rw [up_n (by omega)], show (up τ 6 0 0 f n) 0 0 0 36 = τ 0 0 0 36 by repeat rw [up_n (by omega)]]
    exact fun q => ⟨(cK q).1.u (by intros; repeat rw [up_n (by omega)]), (cK q).2.u (by intros; repeat rw [up_n (by omega)])⟩,
   by
    rw [show (up τ 6 0 0 f n) 0 0 0 0 = τ 0 0 0 0 by repeat rw [up_n (by omega)], show (up σ 12 0 f 0 n) 0 0 0 7 = σ 0 0 0 7 by repeat rw [up_n (by omega)]]
    exact cR,
   by
    rw [show (up τ 6 0 0 f n) 0 0 0 17 = τ 0 0 0 17 by repeat rw [up_n (by omega)], show (up σ 12 0 f 0 n) 0 0 0 8 = σ 0 0 0 8 by repeat rw [up_n (by omega)]]
    exact cA⟩
theorem IM_name {B : Int} {τ : St} {f n : Int} (hn : 0 ≤ n ∧ n ≤ 9) (hI : IM B τ) : IM B (up τ 6 0 0 f n) := by
  obtain ⟨hW, hF, hrd, hak, hpl, hpg, hwt, hfr, hsn, hso, hce, hkp, hkk⟩ := hI
  refine ⟨by
    rw [wv_up6]
    exact wu4_ok hW hn.1 hn.2,
   by
    rw [show (up τ 6 0 0 f n) 0 0 0 1 = τ 0 0 0 1 by repeat rw [up_n (by omega)], show (up τ 6 0 0 f n) 1 0 0 = τ 1 0 0 from funext fun j => by repeat rw [up_n (by omega)]]
    exact hF,
   by
    rw [show (up τ 6 0 0 f n) 0 0 0 0 = τ 0 0 0 0 by repeat rw [up_n (by omega)]]
    exact hrd,
   by
    rw [show (up τ 6 0 0 f n) 0 0 0 17 = τ 0 0 0 17 by repeat rw [up_n (by omega)]]
    exact hak,
   by
    rw [show (up τ 6 0 0 f n) 0 0 0 18 = τ 0 0 0 18 by repeat rw [up_n (by omega)]]
    exact hpl,
   by
    rw [show (up τ 6 0 0 f n) 10 0 0 = τ 10 0 0 from funext fun j => by repeat rw [up_n (by omega)]]
    exact hpg,
   by
    rw [show (up τ 6 0 0 f n) 0 0 0 13 = τ 0 0 0 13 by repeat rw [up_n (by omega)], show (up τ 6 0 0 f n) 0 0 0 5 = τ 0 0 0 5 by repeat rw [up_n (by omega)]]
    exact hwt,
   by
    rw [show (up τ 6 0 0 f n) 0 0 0 14 = τ 0 0 0 14 by repeat rw [up_n (by omega)]]
    exact hfr,
   by
    rw [show (up τ 6 0 0 f n) 0 0 0 15 = τ 0 0 0 15 by repeat rw [up_n (by omega)]]
    exact hsn,
   by
    rw [show (up τ 6 0 0 f n) 9 0 0 = τ 9 0 0 from funext fun j => by repeat rw [up_n (by omega)]]
    exact hso,
   by
    rw [show (up τ 6 0 0 f n) 7 0 0 = τ 7 0 0 from funext fun j => by repeat rw [up_n (by omega)]]
    exact hce,
   by
    rw [show (up τ 6 0 0 f n) 0 0 0 30 = τ 0 0 0 30 by repeat rw [up_n (by omega)]]
    exact hkp,
   by
    rw [show (up τ 6 0 0 f n) 0 0 0 30 = τ 0 0 0 30 by repeat rw [up_n (by omega)], kv_c (τ := τ) (τ' := (up τ 6 0 0 f n)) (by repeat rw [up_n (by omega)]) (by repeat rw [up_n (by omega)]) (by repeat rw [up_n (by omega)]) (by intros; repeat rw [up_n (by omega)]), show (up τ 6 0 0 f n) 0 0 0 5 = τ 0 0 0 5 by repeat rw [up_n (by omega)], show (up τ 6 0 0 f n) 0 0 0 32 = τ 0 0 0 32 by repeat rw [up_n (by omega)], show (up τ 6 0 0 f n) 0 0 0 34 = τ 0 0 0 34 by repeat rw [up_n (by omega)], show (up τ 6 0 0 f n) 0 0 0 35 = τ 0 0 0 35 by repeat rw [up_n (by omega)], show (up τ 6 0 0 f n) 0 0 0 36 = τ 0 0 0 36 by repeat rw [up_n (by omega)], show (up τ 6 0 0 f n) 16 0 0 = τ 16 0 0 from funext fun j => by repeat rw [up_n (by omega)], show (up τ 6 0 0 f n) 19 0 0 = τ 19 0 0 from funext fun j => by repeat rw [up_n (by omega)]]
    exact hkk⟩
set_option maxHeartbeats 4000000 in
theorem RC_move {σ τ : St} {f n : Int} (hC : RC σ τ) : RC (up σ 12 0 f 1 n) (up τ 7 0 0 f n) := by
  obtain ⟨cP, ⟨cN, cF⟩, cW, cS, cI, cK, cR, cA⟩ := hC
  refine ⟨by
    rw [show (up τ 7 0 0 f n) 10 0 0 = τ 10 0 0 from funext fun j => by repeat rw [up_n (by omega)], show (up τ 7 0 0 f n) 0 0 0 18 = τ 0 0 0 18 by repeat rw [up_n (by omega)]]
    exact cP.u (by repeat rw [up_n (by omega)]) (by intros; repeat rw [up_n (by omega)]),
   ⟨by
    rw [show (up τ 7 0 0 f n) 0 0 0 1 = τ 0 0 0 1 by repeat rw [up_n (by omega)], show (up σ 12 0 f 1 n) 3 0 0 1 = σ 3 0 0 1 by repeat rw [up_n (by omega)]]
    exact cN,
   by
    rw [fv_c (τ := τ) (τ' := (up τ 7 0 0 f n)) (by repeat rw [up_n (by omega)]) (by intros; repeat rw [up_n (by omega)])]
    exact cF.u (by intros; repeat rw [up_n (by omega)])⟩,
   by
    rw [wv_up7]
    exact RW_move cW,
   by
    rw [show (up τ 7 0 0 f n) 9 0 0 = τ 9 0 0 from funext fun j => by repeat rw [up_n (by omega)], show (up τ 7 0 0 f n) 0 0 0 13 = τ 0 0 0 13 by repeat rw [up_n (by omega)], show (up τ 7 0 0 f n) 0 0 0 14 = τ 0 0 0 14 by repeat rw [up_n (by omega)], show (up τ 7 0 0 f n) 0 0 0 15 = τ 0 0 0 15 by repeat rw [up_n (by omega)]]
    exact cS.u (by intros; repeat rw [up_n (by omega)]),
   by
    rw [show (up τ 7 0 0 f n) 0 0 0 30 = τ 0 0 0 30 by repeat rw [up_n (by omega)], show (up σ 12 0 f 1 n) 0 0 0 6 = σ 0 0 0 6 by repeat rw [up_n (by omega)]]
    exact cI,
   by
    rw [show (up τ 7 0 0 f n) 0 0 0 30 = τ 0 0 0 30 by repeat rw [up_n (by omega)], kv_c (τ := τ) (τ' := (up τ 7 0 0 f n)) (by repeat rw [up_n (by omega)]) (by repeat rw [up_n (by omega)]) (by repeat rw [up_n (by omega)]) (by intros; repeat rw [up_n (by omega)]), show (up τ 7 0 0 f n) 16 0 0 = τ 16 0 0 from funext fun j => by repeat rw [up_n (by omega)], show (up τ 7 0 0 f n) 0 0 0 34 = τ 0 0 0 34 by repeat rw [up_n (by omega)], show (up τ 7 0 0 f n) 0 0 0 35 = τ 0 0 0 35 by repeat rw [up_n (by omega)], show (up τ 7 0 0 f n) 0 0 0 36 = τ 0 0 0 36 by repeat rw [up_n (by omega)]]
    exact fun q => ⟨(cK q).1.u (by intros; repeat rw [up_n (by omega)]), (cK q).2.u (by intros; repeat rw [up_n (by omega)])⟩,
   by
    rw [show (up τ 7 0 0 f n) 0 0 0 0 = τ 0 0 0 0 by repeat rw [up_n (by omega)], show (up σ 12 0 f 1 n) 0 0 0 7 = σ 0 0 0 7 by repeat rw [up_n (by omega)]]
    exact cR,
   by
    rw [show (up τ 7 0 0 f n) 0 0 0 17 = τ 0 0 0 17 by repeat rw [up_n (by omega)], show (up σ 12 0 f 1 n) 0 0 0 8 = σ 0 0 0 8 by repeat rw [up_n (by omega)]]
    exact cA⟩
theorem IM_move {B : Int} {τ : St} {f n : Int} (hn : 0 ≤ n ∧ n ≤ 7) (hI : IM B τ) : IM B (up τ 7 0 0 f n) := by
  obtain ⟨hW, hF, hrd, hak, hpl, hpg, hwt, hfr, hsn, hso, hce, hkp, hkk⟩ := hI
  refine ⟨by
    rw [wv_up7]
    exact wu5_ok hW (by omega) (by omega),
   by
    rw [show (up τ 7 0 0 f n) 0 0 0 1 = τ 0 0 0 1 by repeat rw [up_n (by omega)], show (up τ 7 0 0 f n) 1 0 0 = τ 1 0 0 from funext fun j => by repeat rw [up_n (by omega)]]
    exact hF,
   by
    rw [show (up τ 7 0 0 f n) 0 0 0 0 = τ 0 0 0 0 by repeat rw [up_n (by omega)]]
    exact hrd,
   by
    rw [show (up τ 7 0 0 f n) 0 0 0 17 = τ 0 0 0 17 by repeat rw [up_n (by omega)]]
    exact hak,
   by
    rw [show (up τ 7 0 0 f n) 0 0 0 18 = τ 0 0 0 18 by repeat rw [up_n (by omega)]]
    exact hpl,
   by
    rw [show (up τ 7 0 0 f n) 10 0 0 = τ 10 0 0 from funext fun j => by repeat rw [up_n (by omega)]]
    exact hpg,
   by
    rw [show (up τ 7 0 0 f n) 0 0 0 13 = τ 0 0 0 13 by repeat rw [up_n (by omega)], show (up τ 7 0 0 f n) 0 0 0 5 = τ 0 0 0 5 by repeat rw [up_n (by omega)]]
    exact hwt,
   by
    rw [show (up τ 7 0 0 f n) 0 0 0 14 = τ 0 0 0 14 by repeat rw [up_n (by omega)]]
    exact hfr,
   by
    rw [show (up τ 7 0 0 f n) 0 0 0 15 = τ 0 0 0 15 by repeat rw [up_n (by omega)]]
    exact hsn,
   by
    rw [show (up τ 7 0 0 f n) 9 0 0 = τ 9 0 0 from funext fun j => by repeat rw [up_n (by omega)]]
    exact hso,
   fun g g0 g1 => by
    by_cases e : g = f
    · rw [e, up_s]
      exact hn
    · rw [up_n (by omega)]
      exact hce g g0 g1,
   by
    rw [show (up τ 7 0 0 f n) 0 0 0 30 = τ 0 0 0 30 by repeat rw [up_n (by omega)]]
    exact hkp,
   by
    rw [show (up τ 7 0 0 f n) 0 0 0 30 = τ 0 0 0 30 by repeat rw [up_n (by omega)], kv_c (τ := τ) (τ' := (up τ 7 0 0 f n)) (by repeat rw [up_n (by omega)]) (by repeat rw [up_n (by omega)]) (by repeat rw [up_n (by omega)]) (by intros; repeat rw [up_n (by omega)]), show (up τ 7 0 0 f n) 0 0 0 5 = τ 0 0 0 5 by repeat rw [up_n (by omega)], show (up τ 7 0 0 f n) 0 0 0 32 = τ 0 0 0 32 by repeat rw [up_n (by omega)], show (up τ 7 0 0 f n) 0 0 0 34 = τ 0 0 0 34 by repeat rw [up_n (by omega)], show (up τ 7 0 0 f n) 0 0 0 35 = τ 0 0 0 35 by repeat rw [up_n (by omega)], show (up τ 7 0 0 f n) 0 0 0 36 = τ 0 0 0 36 by repeat rw [up_n (by omega)], show (up τ 7 0 0 f n) 16 0 0 = τ 16 0 0 from funext fun j => by repeat rw [up_n (by omega)], show (up τ 7 0 0 f n) 19 0 0 = τ 19 0 0 from funext fun j => by repeat rw [up_n (by omega)]]
    exact hkk⟩
set_option maxHeartbeats 4000000 in
theorem RC_pack {σ τ : St} {k c g : Int} (hk : τ 0 0 0 30 = 1 → τ 0 0 0 32 ≤ τ 0 0 0 5) (hC : RC σ τ) : RC (up (up (up (up σ 11 0 (τ 0 0 0 5) 0 k) 11 0 (τ 0 0 0 5) 1 c) 11 0 (τ 0 0 0 5) 2 g) 6 0 0 4 (τ 0 0 0 5 + 1)) (up (up (up (up τ 3 0 0 (τ 0 0 0 5) k) 4 0 0 (τ 0 0 0 5) c) 5 0 0 (τ 0 0 0 5) g) 0 0 0 5 (τ 0 0 0 5 + 1)) := by
  obtain ⟨cP, ⟨cN, cF⟩, cW, cS, cI, cK, cR, cA⟩ := hC
  refine ⟨by
    rw [show (up (up (up (up τ 3 0 0 (τ 0 0 0 5) k) 4 0 0 (τ 0 0 0 5) c) 5 0 0 (τ 0 0 0 5) g) 0 0 0 5 (τ 0 0 0 5 + 1)) 10 0 0 = τ 10 0 0 from funext fun j => by repeat rw [up_n (by omega)], show (up (up (up (up τ 3 0 0 (τ 0 0 0 5) k) 4 0 0 (τ 0 0 0 5) c) 5 0 0 (τ 0 0 0 5) g) 0 0 0 5 (τ 0 0 0 5 + 1)) 0 0 0 18 = τ 0 0 0 18 by repeat rw [up_n (by omega)]]
    exact cP.u (by repeat rw [up_n (by omega)]) (by intros; repeat rw [up_n (by omega)]),
   ⟨by
    rw [show (up (up (up (up τ 3 0 0 (τ 0 0 0 5) k) 4 0 0 (τ 0 0 0 5) c) 5 0 0 (τ 0 0 0 5) g) 0 0 0 5 (τ 0 0 0 5 + 1)) 0 0 0 1 = τ 0 0 0 1 by repeat rw [up_n (by omega)], show (up (up (up (up σ 11 0 (τ 0 0 0 5) 0 k) 11 0 (τ 0 0 0 5) 1 c) 11 0 (τ 0 0 0 5) 2 g) 6 0 0 4 (τ 0 0 0 5 + 1)) 3 0 0 1 = σ 3 0 0 1 by repeat rw [up_n (by omega)]]
    exact cN,
   by
    rw [fv_c (τ := τ) (τ' := (up (up (up (up τ 3 0 0 (τ 0 0 0 5) k) 4 0 0 (τ 0 0 0 5) c) 5 0 0 (τ 0 0 0 5) g) 0 0 0 5 (τ 0 0 0 5 + 1))) (by repeat rw [up_n (by omega)]) (by intros; repeat rw [up_n (by omega)])]
    exact cF.u (by intros; repeat rw [up_n (by omega)])⟩,
   by
    have e := wv_sPk τ k c g
    unfold sPkB at e
    rw [e]
    exact RW_pack cW rfl,
   by
    rw [show (up (up (up (up τ 3 0 0 (τ 0 0 0 5) k) 4 0 0 (τ 0 0 0 5) c) 5 0 0 (τ 0 0 0 5) g) 0 0 0 5 (τ 0 0 0 5 + 1)) 9 0 0 = τ 9 0 0 from funext fun j => by repeat rw [up_n (by omega)], show (up (up (up (up τ 3 0 0 (τ 0 0 0 5) k) 4 0 0 (τ 0 0 0 5) c) 5 0 0 (τ 0 0 0 5) g) 0 0 0 5 (τ 0 0 0 5 + 1)) 0 0 0 13 = τ 0 0 0 13 by repeat rw [up_n (by omega)], show (up (up (up (up τ 3 0 0 (τ 0 0 0 5) k) 4 0 0 (τ 0 0 0 5) c) 5 0 0 (τ 0 0 0 5) g) 0 0 0 5 (τ 0 0 0 5 + 1)) 0 0 0 14 = τ 0 0 0 14 by repeat rw [up_n (by omega)], show (up (up (up (up τ 3 0 0 (τ 0 0 0 5) k) 4 0 0 (τ 0 0 0 5) c) 5 0 0 (τ 0 0 0 5) g) 0 0 0 5 (τ 0 0 0 5 + 1)) 0 0 0 15 = τ 0 0 0 15 by repeat rw [up_n (by omega)]]
    exact cS.u (by intros; repeat rw [up_n (by omega)]),
   by
    rw [show (up (up (up (up τ 3 0 0 (τ 0 0 0 5) k) 4 0 0 (τ 0 0 0 5) c) 5 0 0 (τ 0 0 0 5) g) 0 0 0 5 (τ 0 0 0 5 + 1)) 0 0 0 30 = τ 0 0 0 30 by repeat rw [up_n (by omega)], show (up (up (up (up σ 11 0 (τ 0 0 0 5) 0 k) 11 0 (τ 0 0 0 5) 1 c) 11 0 (τ 0 0 0 5) 2 g) 6 0 0 4 (τ 0 0 0 5 + 1)) 0 0 0 6 = σ 0 0 0 6 by repeat rw [up_n (by omega)]]
    exact cI,
   by
    rw [show (up (up (up (up τ 3 0 0 (τ 0 0 0 5) k) 4 0 0 (τ 0 0 0 5) c) 5 0 0 (τ 0 0 0 5) g) 0 0 0 5 (τ 0 0 0 5 + 1)) 0 0 0 30 = τ 0 0 0 30 by repeat rw [up_n (by omega)], show (up (up (up (up τ 3 0 0 (τ 0 0 0 5) k) 4 0 0 (τ 0 0 0 5) c) 5 0 0 (τ 0 0 0 5) g) 0 0 0 5 (τ 0 0 0 5 + 1)) 16 0 0 = τ 16 0 0 from funext fun j => by repeat rw [up_n (by omega)], show (up (up (up (up τ 3 0 0 (τ 0 0 0 5) k) 4 0 0 (τ 0 0 0 5) c) 5 0 0 (τ 0 0 0 5) g) 0 0 0 5 (τ 0 0 0 5 + 1)) 0 0 0 34 = τ 0 0 0 34 by repeat rw [up_n (by omega)], show (up (up (up (up τ 3 0 0 (τ 0 0 0 5) k) 4 0 0 (τ 0 0 0 5) c) 5 0 0 (τ 0 0 0 5) g) 0 0 0 5 (τ 0 0 0 5 + 1)) 0 0 0 35 = τ 0 0 0 35 by repeat rw [up_n (by omega)], show (up (up (up (up τ 3 0 0 (τ 0 0 0 5) k) 4 0 0 (τ 0 0 0 5) c) 5 0 0 (τ 0 0 0 5) g) 0 0 0 5 (τ 0 0 0 5 + 1)) 0 0 0 36 = τ 0 0 0 36 by repeat rw [up_n (by omega)]]
    refine fun q => ⟨?_, (cK q).2.u (by intros; repeat rw [up_n (by omega)])⟩
    have hk2 := hk q
    have hb : RW ((up (up (up (up σ 11 0 (τ 0 0 0 5) 0 k) 11 0 (τ 0 0 0 5) 1 c) 11 0 (τ 0 0 0 5) 2 g) 6 0 0 4 (τ 0 0 0 5 + 1))) 1 (kv τ) := (cK q).1.u (by intros; repeat rw [up_n (by omega)])
    refine hb.c ?_ ?_ ?_ (fun p p0 p1 => ?_) (fun f => ?_) (fun x => ?_)
    · show (up (up (up (up τ 3 0 0 (τ 0 0 0 5) k) 4 0 0 (τ 0 0 0 5) c) 5 0 0 (τ 0 0 0 5) g) 0 0 0 5 (τ 0 0 0 5 + 1)) 0 0 0 32 = τ 0 0 0 32
      repeat rw [up_n (by omega)]
    · show (up (up (up (up τ 3 0 0 (τ 0 0 0 5) k) 4 0 0 (τ 0 0 0 5) c) 5 0 0 (τ 0 0 0 5) g) 0 0 0 5 (τ 0 0 0 5 + 1)) 0 0 0 33 = τ 0 0 0 33
      repeat rw [up_n (by omega)]
    · show (up (up (up (up τ 3 0 0 (τ 0 0 0 5) k) 4 0 0 (τ 0 0 0 5) c) 5 0 0 (τ 0 0 0 5) g) 0 0 0 5 (τ 0 0 0 5 + 1)) 0 0 0 31 = τ 0 0 0 31
      repeat rw [up_n (by omega)]
    · have p2 : p < τ 0 0 0 32 := p1
      refine ⟨?_, ?_, ?_⟩
      · show (up (up (up (up τ 3 0 0 (τ 0 0 0 5) k) 4 0 0 (τ 0 0 0 5) c) 5 0 0 (τ 0 0 0 5) g) 0 0 0 5 (τ 0 0 0 5 + 1)) 3 0 0 p = τ 3 0 0 p
        repeat rw [up_n (by omega)]
      · show (up (up (up (up τ 3 0 0 (τ 0 0 0 5) k) 4 0 0 (τ 0 0 0 5) c) 5 0 0 (τ 0 0 0 5) g) 0 0 0 5 (τ 0 0 0 5 + 1)) 4 0 0 p = τ 4 0 0 p
        repeat rw [up_n (by omega)]
      · show (up (up (up (up τ 3 0 0 (τ 0 0 0 5) k) 4 0 0 (τ 0 0 0 5) c) 5 0 0 (τ 0 0 0 5) g) 0 0 0 5 (τ 0 0 0 5 + 1)) 5 0 0 p = τ 5 0 0 p
        repeat rw [up_n (by omega)]
    · refine ⟨?_, ?_, ?_⟩
      · show (up (up (up (up τ 3 0 0 (τ 0 0 0 5) k) 4 0 0 (τ 0 0 0 5) c) 5 0 0 (τ 0 0 0 5) g) 0 0 0 5 (τ 0 0 0 5 + 1)) 18 0 0 f = τ 18 0 0 f
        repeat rw [up_n (by omega)]
      · show (up (up (up (up τ 3 0 0 (τ 0 0 0 5) k) 4 0 0 (τ 0 0 0 5) c) 5 0 0 (τ 0 0 0 5) g) 0 0 0 5 (τ 0 0 0 5 + 1)) 19 0 0 f = τ 19 0 0 f
        repeat rw [up_n (by omega)]
      · show (up (up (up (up τ 3 0 0 (τ 0 0 0 5) k) 4 0 0 (τ 0 0 0 5) c) 5 0 0 (τ 0 0 0 5) g) 0 0 0 5 (τ 0 0 0 5 + 1)) 20 0 0 f = τ 20 0 0 f
        repeat rw [up_n (by omega)]
    · show (up (up (up (up τ 3 0 0 (τ 0 0 0 5) k) 4 0 0 (τ 0 0 0 5) c) 5 0 0 (τ 0 0 0 5) g) 0 0 0 5 (τ 0 0 0 5 + 1)) 17 0 0 x = τ 17 0 0 x
      repeat rw [up_n (by omega)],
   by
    rw [show (up (up (up (up τ 3 0 0 (τ 0 0 0 5) k) 4 0 0 (τ 0 0 0 5) c) 5 0 0 (τ 0 0 0 5) g) 0 0 0 5 (τ 0 0 0 5 + 1)) 0 0 0 0 = τ 0 0 0 0 by repeat rw [up_n (by omega)], show (up (up (up (up σ 11 0 (τ 0 0 0 5) 0 k) 11 0 (τ 0 0 0 5) 1 c) 11 0 (τ 0 0 0 5) 2 g) 6 0 0 4 (τ 0 0 0 5 + 1)) 0 0 0 7 = σ 0 0 0 7 by repeat rw [up_n (by omega)]]
    exact cR,
   by
    rw [show (up (up (up (up τ 3 0 0 (τ 0 0 0 5) k) 4 0 0 (τ 0 0 0 5) c) 5 0 0 (τ 0 0 0 5) g) 0 0 0 5 (τ 0 0 0 5 + 1)) 0 0 0 17 = τ 0 0 0 17 by repeat rw [up_n (by omega)], show (up (up (up (up σ 11 0 (τ 0 0 0 5) 0 k) 11 0 (τ 0 0 0 5) 1 c) 11 0 (τ 0 0 0 5) 2 g) 6 0 0 4 (τ 0 0 0 5 + 1)) 0 0 0 8 = σ 0 0 0 8 by repeat rw [up_n (by omega)]]
    exact cA⟩
theorem IM_pack {B : Int} {τ : St} {k c g : Int} (hk : 0 ≤ k ∧ k ≤ 4) (hc : 0 ≤ c ∧ c ≤ 7) (hg : 0 ≤ g ∧ g ≤ 9) (hn : τ 0 0 0 5 ≠ 4) (hI : IM B τ) : IM B (up (up (up (up τ 3 0 0 (τ 0 0 0 5) k) 4 0 0 (τ 0 0 0 5) c) 5 0 0 (τ 0 0 0 5) g) 0 0 0 5 (τ 0 0 0 5 + 1)) := by
  obtain ⟨hW, hF, hrd, hak, hpl, hpg, hwt, hfr, hsn, hso, hce, hkp, hkk⟩ := hI
  refine ⟨by
    have e := wv_sPk τ k c g
    unfold sPkB at e
    rw [e]
    obtain ⟨a, b, x, y, z, u⟩ := hW
    have a' : wv τ 0 0 = τ 0 0 0 5 := rfl
    refine ⟨by rw [wu_s]; omega, by simpa [wu] using b, by simpa [wu] using x, fun p p0 p1 => ?_, fun f f0 f1 => by simpa [wu] using z f f0 f1, fun q q0 q1 => by simpa [wu] using u q q0 q1⟩
    by_cases e : p = τ 0 0 0 5
    · subst e
      simp [wu]
      omega
    · simpa [wu, e] using y p p0 p1,
   by
    rw [show (up (up (up (up τ 3 0 0 (τ 0 0 0 5) k) 4 0 0 (τ 0 0 0 5) c) 5 0 0 (τ 0 0 0 5) g) 0 0 0 5 (τ 0 0 0 5 + 1)) 0 0 0 1 = τ 0 0 0 1 by repeat rw [up_n (by omega)], show (up (up (up (up τ 3 0 0 (τ 0 0 0 5) k) 4 0 0 (τ 0 0 0 5) c) 5 0 0 (τ 0 0 0 5) g) 0 0 0 5 (τ 0 0 0 5 + 1)) 1 0 0 = τ 1 0 0 from funext fun j => by repeat rw [up_n (by omega)]]
    exact hF,
   by
    rw [show (up (up (up (up τ 3 0 0 (τ 0 0 0 5) k) 4 0 0 (τ 0 0 0 5) c) 5 0 0 (τ 0 0 0 5) g) 0 0 0 5 (τ 0 0 0 5 + 1)) 0 0 0 0 = τ 0 0 0 0 by repeat rw [up_n (by omega)]]
    exact hrd,
   by
    rw [show (up (up (up (up τ 3 0 0 (τ 0 0 0 5) k) 4 0 0 (τ 0 0 0 5) c) 5 0 0 (τ 0 0 0 5) g) 0 0 0 5 (τ 0 0 0 5 + 1)) 0 0 0 17 = τ 0 0 0 17 by repeat rw [up_n (by omega)]]
    exact hak,
   by
    rw [show (up (up (up (up τ 3 0 0 (τ 0 0 0 5) k) 4 0 0 (τ 0 0 0 5) c) 5 0 0 (τ 0 0 0 5) g) 0 0 0 5 (τ 0 0 0 5 + 1)) 0 0 0 18 = τ 0 0 0 18 by repeat rw [up_n (by omega)]]
    exact hpl,
   by
    rw [show (up (up (up (up τ 3 0 0 (τ 0 0 0 5) k) 4 0 0 (τ 0 0 0 5) c) 5 0 0 (τ 0 0 0 5) g) 0 0 0 5 (τ 0 0 0 5 + 1)) 10 0 0 = τ 10 0 0 from funext fun j => by repeat rw [up_n (by omega)]]
    exact hpg,
   by
    rw [show (up (up (up (up τ 3 0 0 (τ 0 0 0 5) k) 4 0 0 (τ 0 0 0 5) c) 5 0 0 (τ 0 0 0 5) g) 0 0 0 5 (τ 0 0 0 5 + 1)) 0 0 0 13 = τ 0 0 0 13 by repeat rw [up_n (by omega)], up_s]
    omega,
   by
    rw [show (up (up (up (up τ 3 0 0 (τ 0 0 0 5) k) 4 0 0 (τ 0 0 0 5) c) 5 0 0 (τ 0 0 0 5) g) 0 0 0 5 (τ 0 0 0 5 + 1)) 0 0 0 14 = τ 0 0 0 14 by repeat rw [up_n (by omega)]]
    exact hfr,
   by
    rw [show (up (up (up (up τ 3 0 0 (τ 0 0 0 5) k) 4 0 0 (τ 0 0 0 5) c) 5 0 0 (τ 0 0 0 5) g) 0 0 0 5 (τ 0 0 0 5 + 1)) 0 0 0 15 = τ 0 0 0 15 by repeat rw [up_n (by omega)]]
    exact hsn,
   by
    rw [show (up (up (up (up τ 3 0 0 (τ 0 0 0 5) k) 4 0 0 (τ 0 0 0 5) c) 5 0 0 (τ 0 0 0 5) g) 0 0 0 5 (τ 0 0 0 5 + 1)) 9 0 0 = τ 9 0 0 from funext fun j => by repeat rw [up_n (by omega)]]
    exact hso,
   by
    rw [show (up (up (up (up τ 3 0 0 (τ 0 0 0 5) k) 4 0 0 (τ 0 0 0 5) c) 5 0 0 (τ 0 0 0 5) g) 0 0 0 5 (τ 0 0 0 5 + 1)) 7 0 0 = τ 7 0 0 from funext fun j => by repeat rw [up_n (by omega)]]
    exact hce,
   by
    rw [show (up (up (up (up τ 3 0 0 (τ 0 0 0 5) k) 4 0 0 (τ 0 0 0 5) c) 5 0 0 (τ 0 0 0 5) g) 0 0 0 5 (τ 0 0 0 5 + 1)) 0 0 0 30 = τ 0 0 0 30 by repeat rw [up_n (by omega)]]
    exact hkp,
   by
    rw [show (up (up (up (up τ 3 0 0 (τ 0 0 0 5) k) 4 0 0 (τ 0 0 0 5) c) 5 0 0 (τ 0 0 0 5) g) 0 0 0 5 (τ 0 0 0 5 + 1)) 0 0 0 30 = τ 0 0 0 30 by repeat rw [up_n (by omega)], show (up (up (up (up τ 3 0 0 (τ 0 0 0 5) k) 4 0 0 (τ 0 0 0 5) c) 5 0 0 (τ 0 0 0 5) g) 0 0 0 5 (τ 0 0 0 5 + 1)) 0 0 0 32 = τ 0 0 0 32 by repeat rw [up_n (by omega)], show (up (up (up (up τ 3 0 0 (τ 0 0 0 5) k) 4 0 0 (τ 0 0 0 5) c) 5 0 0 (τ 0 0 0 5) g) 0 0 0 5 (τ 0 0 0 5 + 1)) 0 0 0 34 = τ 0 0 0 34 by repeat rw [up_n (by omega)], show (up (up (up (up τ 3 0 0 (τ 0 0 0 5) k) 4 0 0 (τ 0 0 0 5) c) 5 0 0 (τ 0 0 0 5) g) 0 0 0 5 (τ 0 0 0 5 + 1)) 0 0 0 35 = τ 0 0 0 35 by repeat rw [up_n (by omega)], show (up (up (up (up τ 3 0 0 (τ 0 0 0 5) k) 4 0 0 (τ 0 0 0 5) c) 5 0 0 (τ 0 0 0 5) g) 0 0 0 5 (τ 0 0 0 5 + 1)) 0 0 0 36 = τ 0 0 0 36 by repeat rw [up_n (by omega)], show (up (up (up (up τ 3 0 0 (τ 0 0 0 5) k) 4 0 0 (τ 0 0 0 5) c) 5 0 0 (τ 0 0 0 5) g) 0 0 0 5 (τ 0 0 0 5 + 1)) 16 0 0 = τ 16 0 0 from funext fun j => by repeat rw [up_n (by omega)], show (up (up (up (up τ 3 0 0 (τ 0 0 0 5) k) 4 0 0 (τ 0 0 0 5) c) 5 0 0 (τ 0 0 0 5) g) 0 0 0 5 (τ 0 0 0 5 + 1)) 19 0 0 = τ 19 0 0 from funext fun j => by repeat rw [up_n (by omega)], up_s]
    intro q
    obtain ⟨k1, k2, k3, k4, k5, k6, k7⟩ := hkk q
    refine ⟨?_, by omega, k3, k4, k5, k6, k7⟩
    obtain ⟨a, b, x, y, z, u⟩ := k1
    have e0 : ∀ i, kv ((up (up (up (up τ 3 0 0 (τ 0 0 0 5) k) 4 0 0 (τ 0 0 0 5) c) 5 0 0 (τ 0 0 0 5) g) 0 0 0 5 (τ 0 0 0 5 + 1))) 0 i = kv τ 0 i := fun i => by
      unfold kv
      rw [if_pos rfl, if_pos rfl, show (up (up (up (up τ 3 0 0 (τ 0 0 0 5) k) 4 0 0 (τ 0 0 0 5) c) 5 0 0 (τ 0 0 0 5) g) 0 0 0 5 (τ 0 0 0 5 + 1)) 0 0 0 32 = τ 0 0 0 32 by repeat rw [up_n (by omega)], show (up (up (up (up τ 3 0 0 (τ 0 0 0 5) k) 4 0 0 (τ 0 0 0 5) c) 5 0 0 (τ 0 0 0 5) g) 0 0 0 5 (τ 0 0 0 5 + 1)) 0 0 0 33 = τ 0 0 0 33 by repeat rw [up_n (by omega)], show (up (up (up (up τ 3 0 0 (τ 0 0 0 5) k) 4 0 0 (τ 0 0 0 5) c) 5 0 0 (τ 0 0 0 5) g) 0 0 0 5 (τ 0 0 0 5 + 1)) 0 0 0 31 = τ 0 0 0 31 by repeat rw [up_n (by omega)]]
    have e1 : ∀ (r : Nat) i, 4 ≤ r → kv ((up (up (up (up τ 3 0 0 (τ 0 0 0 5) k) 4 0 0 (τ 0 0 0 5) c) 5 0 0 (τ 0 0 0 5) g) 0 0 0 5 (τ 0 0 0 5 + 1))) r i = kv τ r i := fun r i hr => by
      unfold kv
      by_cases e7 : r = 7
      · rw [if_neg (show ¬ r = 0 by omega), if_neg (show ¬ r = 0 by omega), if_pos e7, if_pos e7]
        repeat rw [up_n (by omega)]
      · rw [if_neg (show ¬ r = 0 by omega), if_neg (show ¬ r = 0 by omega), if_neg e7, if_neg e7, if_neg (show ¬ r < 4 by omega), if_neg (show ¬ r < 4 by omega)]
        by_cases e8 : r < 7
        · rw [if_pos e8, if_pos e8]
          repeat rw [up_n (by omega)]
        · rw [if_neg e8, if_neg e8]
    have e2 : ∀ (r : Nat) p, 1 ≤ r → r < 4 → p ≠ τ 0 0 0 5 → kv ((up (up (up (up τ 3 0 0 (τ 0 0 0 5) k) 4 0 0 (τ 0 0 0 5) c) 5 0 0 (τ 0 0 0 5) g) 0 0 0 5 (τ 0 0 0 5 + 1))) r p = kv τ r p := fun r p h0 h1 h2 => by
      unfold kv
      rw [if_neg (show ¬ r = 0 by omega), if_neg (show ¬ r = 0 by omega), if_neg (show ¬ r = 7 by omega), if_neg (show ¬ r = 7 by omega), if_pos h1, if_pos h1]
      repeat rw [up_n (by omega)]
    refine ⟨by rw [e0]; exact a, by rw [e0]; exact b, by rw [e0]; exact x, fun p p0 p1 => ?_, fun f f0 f1 => ?_, fun w w0 w1 => ?_⟩
    · by_cases e : p = τ 0 0 0 5
      · have v1 : kv ((up (up (up (up τ 3 0 0 (τ 0 0 0 5) k) 4 0 0 (τ 0 0 0 5) c) 5 0 0 (τ 0 0 0 5) g) 0 0 0 5 (τ 0 0 0 5 + 1))) 1 p = k := by
          show (up (up (up (up τ 3 0 0 (τ 0 0 0 5) k) 4 0 0 (τ 0 0 0 5) c) 5 0 0 (τ 0 0 0 5) g) 0 0 0 5 (τ 0 0 0 5 + 1)) 3 0 0 p = k
          rw [e, up_n (by omega), up_n (by omega), up_n (by omega), up_s]
        have v2 : kv ((up (up (up (up τ 3 0 0 (τ 0 0 0 5) k) 4 0 0 (τ 0 0 0 5) c) 5 0 0 (τ 0 0 0 5) g) 0 0 0 5 (τ 0 0 0 5 + 1))) 2 p = c := by
          show (up (up (up (up τ 3 0 0 (τ 0 0 0 5) k) 4 0 0 (τ 0 0 0 5) c) 5 0 0 (τ 0 0 0 5) g) 0 0 0 5 (τ 0 0 0 5 + 1)) 4 0 0 p = c
          rw [e, up_n (by omega), up_n (by omega), up_s]
        have v3 : kv ((up (up (up (up τ 3 0 0 (τ 0 0 0 5) k) 4 0 0 (τ 0 0 0 5) c) 5 0 0 (τ 0 0 0 5) g) 0 0 0 5 (τ 0 0 0 5 + 1))) 3 p = g := by
          show (up (up (up (up τ 3 0 0 (τ 0 0 0 5) k) 4 0 0 (τ 0 0 0 5) c) 5 0 0 (τ 0 0 0 5) g) 0 0 0 5 (τ 0 0 0 5 + 1)) 5 0 0 p = g
          rw [e, up_n (by omega), up_s]
        rw [v1, v2, v3]
        exact ⟨hk, hc, hg⟩
      · rw [e2 1 p (by omega) (by omega) e, e2 2 p (by omega) (by omega) e, e2 3 p (by omega) (by omega) e]
        exact y p p0 p1
    · rw [e1 4 f (by omega), e1 5 f (by omega), e1 6 f (by omega)]
      exact z f f0 f1
    · rw [e1 7 w (by omega)]
      exact u w w0 w1⟩
set_option maxHeartbeats 4000000 in
theorem RC_flock {σ τ : St} {n c : Int} (hC : RC σ τ) : RC (up (up (up σ 12 0 (τ 0 0 0 9) 0 n) 12 0 (τ 0 0 0 9) 1 c) 6 0 0 5 (τ 0 0 0 9 + 1)) (up (up (up (up τ 6 0 0 (τ 0 0 0 9) n) 7 0 0 (τ 0 0 0 9) c) 8 0 0 (τ 0 0 0 9) (-1)) 0 0 0 9 (τ 0 0 0 9 + 1)) := by
  obtain ⟨cP, ⟨cN, cF⟩, cW, cS, cI, cK, cR, cA⟩ := hC
  refine ⟨by
    rw [show (up (up (up (up τ 6 0 0 (τ 0 0 0 9) n) 7 0 0 (τ 0 0 0 9) c) 8 0 0 (τ 0 0 0 9) (-1)) 0 0 0 9 (τ 0 0 0 9 + 1)) 10 0 0 = τ 10 0 0 from funext fun j => by repeat rw [up_n (by omega)], show (up (up (up (up τ 6 0 0 (τ 0 0 0 9) n) 7 0 0 (τ 0 0 0 9) c) 8 0 0 (τ 0 0 0 9) (-1)) 0 0 0 9 (τ 0 0 0 9 + 1)) 0 0 0 18 = τ 0 0 0 18 by repeat rw [up_n (by omega)]]
    exact cP.u (by repeat rw [up_n (by omega)]) (by intros; repeat rw [up_n (by omega)]),
   ⟨by
    rw [show (up (up (up (up τ 6 0 0 (τ 0 0 0 9) n) 7 0 0 (τ 0 0 0 9) c) 8 0 0 (τ 0 0 0 9) (-1)) 0 0 0 9 (τ 0 0 0 9 + 1)) 0 0 0 1 = τ 0 0 0 1 by repeat rw [up_n (by omega)], show (up (up (up σ 12 0 (τ 0 0 0 9) 0 n) 12 0 (τ 0 0 0 9) 1 c) 6 0 0 5 (τ 0 0 0 9 + 1)) 3 0 0 1 = σ 3 0 0 1 by repeat rw [up_n (by omega)]]
    exact cN,
   by
    rw [fv_c (τ := τ) (τ' := (up (up (up (up τ 6 0 0 (τ 0 0 0 9) n) 7 0 0 (τ 0 0 0 9) c) 8 0 0 (τ 0 0 0 9) (-1)) 0 0 0 9 (τ 0 0 0 9 + 1))) (by repeat rw [up_n (by omega)]) (by intros; repeat rw [up_n (by omega)])]
    exact cF.u (by intros; repeat rw [up_n (by omega)])⟩,
   by
    have e := wv_sFl τ n c
    unfold sFlB at e
    rw [e]
    exact RW_flock cW rfl,
   by
    rw [show (up (up (up (up τ 6 0 0 (τ 0 0 0 9) n) 7 0 0 (τ 0 0 0 9) c) 8 0 0 (τ 0 0 0 9) (-1)) 0 0 0 9 (τ 0 0 0 9 + 1)) 9 0 0 = τ 9 0 0 from funext fun j => by repeat rw [up_n (by omega)], show (up (up (up (up τ 6 0 0 (τ 0 0 0 9) n) 7 0 0 (τ 0 0 0 9) c) 8 0 0 (τ 0 0 0 9) (-1)) 0 0 0 9 (τ 0 0 0 9 + 1)) 0 0 0 13 = τ 0 0 0 13 by repeat rw [up_n (by omega)], show (up (up (up (up τ 6 0 0 (τ 0 0 0 9) n) 7 0 0 (τ 0 0 0 9) c) 8 0 0 (τ 0 0 0 9) (-1)) 0 0 0 9 (τ 0 0 0 9 + 1)) 0 0 0 14 = τ 0 0 0 14 by repeat rw [up_n (by omega)], show (up (up (up (up τ 6 0 0 (τ 0 0 0 9) n) 7 0 0 (τ 0 0 0 9) c) 8 0 0 (τ 0 0 0 9) (-1)) 0 0 0 9 (τ 0 0 0 9 + 1)) 0 0 0 15 = τ 0 0 0 15 by repeat rw [up_n (by omega)]]
    exact cS.u (by intros; repeat rw [up_n (by omega)]),
   by
    rw [show (up (up (up (up τ 6 0 0 (τ 0 0 0 9) n) 7 0 0 (τ 0 0 0 9) c) 8 0 0 (τ 0 0 0 9) (-1)) 0 0 0 9 (τ 0 0 0 9 + 1)) 0 0 0 30 = τ 0 0 0 30 by repeat rw [up_n (by omega)], show (up (up (up σ 12 0 (τ 0 0 0 9) 0 n) 12 0 (τ 0 0 0 9) 1 c) 6 0 0 5 (τ 0 0 0 9 + 1)) 0 0 0 6 = σ 0 0 0 6 by repeat rw [up_n (by omega)]]
    exact cI,
   by
    rw [show (up (up (up (up τ 6 0 0 (τ 0 0 0 9) n) 7 0 0 (τ 0 0 0 9) c) 8 0 0 (τ 0 0 0 9) (-1)) 0 0 0 9 (τ 0 0 0 9 + 1)) 0 0 0 30 = τ 0 0 0 30 by repeat rw [up_n (by omega)], kv_c (τ := τ) (τ' := (up (up (up (up τ 6 0 0 (τ 0 0 0 9) n) 7 0 0 (τ 0 0 0 9) c) 8 0 0 (τ 0 0 0 9) (-1)) 0 0 0 9 (τ 0 0 0 9 + 1))) (by repeat rw [up_n (by omega)]) (by repeat rw [up_n (by omega)]) (by repeat rw [up_n (by omega)]) (by intros; repeat rw [up_n (by omega)]), show (up (up (up (up τ 6 0 0 (τ 0 0 0 9) n) 7 0 0 (τ 0 0 0 9) c) 8 0 0 (τ 0 0 0 9) (-1)) 0 0 0 9 (τ 0 0 0 9 + 1)) 16 0 0 = τ 16 0 0 from funext fun j => by repeat rw [up_n (by omega)], show (up (up (up (up τ 6 0 0 (τ 0 0 0 9) n) 7 0 0 (τ 0 0 0 9) c) 8 0 0 (τ 0 0 0 9) (-1)) 0 0 0 9 (τ 0 0 0 9 + 1)) 0 0 0 34 = τ 0 0 0 34 by repeat rw [up_n (by omega)], show (up (up (up (up τ 6 0 0 (τ 0 0 0 9) n) 7 0 0 (τ 0 0 0 9) c) 8 0 0 (τ 0 0 0 9) (-1)) 0 0 0 9 (τ 0 0 0 9 + 1)) 0 0 0 35 = τ 0 0 0 35 by repeat rw [up_n (by omega)], show (up (up (up (up τ 6 0 0 (τ 0 0 0 9) n) 7 0 0 (τ 0 0 0 9) c) 8 0 0 (τ 0 0 0 9) (-1)) 0 0 0 9 (τ 0 0 0 9 + 1)) 0 0 0 36 = τ 0 0 0 36 by repeat rw [up_n (by omega)]]
    exact fun q => ⟨(cK q).1.u (by intros; repeat rw [up_n (by omega)]), (cK q).2.u (by intros; repeat rw [up_n (by omega)])⟩,
   by
    rw [show (up (up (up (up τ 6 0 0 (τ 0 0 0 9) n) 7 0 0 (τ 0 0 0 9) c) 8 0 0 (τ 0 0 0 9) (-1)) 0 0 0 9 (τ 0 0 0 9 + 1)) 0 0 0 0 = τ 0 0 0 0 by repeat rw [up_n (by omega)], show (up (up (up σ 12 0 (τ 0 0 0 9) 0 n) 12 0 (τ 0 0 0 9) 1 c) 6 0 0 5 (τ 0 0 0 9 + 1)) 0 0 0 7 = σ 0 0 0 7 by repeat rw [up_n (by omega)]]
    exact cR,
   by
    rw [show (up (up (up (up τ 6 0 0 (τ 0 0 0 9) n) 7 0 0 (τ 0 0 0 9) c) 8 0 0 (τ 0 0 0 9) (-1)) 0 0 0 9 (τ 0 0 0 9 + 1)) 0 0 0 17 = τ 0 0 0 17 by repeat rw [up_n (by omega)], show (up (up (up σ 12 0 (τ 0 0 0 9) 0 n) 12 0 (τ 0 0 0 9) 1 c) 6 0 0 5 (τ 0 0 0 9 + 1)) 0 0 0 8 = σ 0 0 0 8 by repeat rw [up_n (by omega)]]
    exact cA⟩
theorem IM_flock {B : Int} {τ : St} {n c : Int} (hn : 0 ≤ n ∧ n ≤ 9) (hc : 0 ≤ c ∧ c ≤ 7) (hf : τ 0 0 0 9 ≠ 5) (hI : IM B τ) : IM B (up (up (up (up τ 6 0 0 (τ 0 0 0 9) n) 7 0 0 (τ 0 0 0 9) c) 8 0 0 (τ 0 0 0 9) (-1)) 0 0 0 9 (τ 0 0 0 9 + 1)) := by
  obtain ⟨hW, hF, hrd, hak, hpl, hpg, hwt, hfr, hsn, hso, hce, hkp, hkk⟩ := hI
  refine ⟨by
    have e := wv_sFl τ n c
    unfold sFlB at e
    rw [e]
    obtain ⟨a, b, x, y, z, u⟩ := hW
    have a' : wv τ 0 1 = τ 0 0 0 9 := rfl
    refine ⟨by simpa [wu] using a, by rw [wu_s]; omega, by simpa [wu] using x, fun p p0 p1 => by simpa [wu] using y p p0 p1, fun f f0 f1 => ?_, fun q q0 q1 => by simpa [wu] using u q q0 q1⟩
    by_cases e : f = τ 0 0 0 9
    · subst e
      simp [wu]
      omega
    · simpa [wu, e] using z f f0 f1,
   by
    rw [show (up (up (up (up τ 6 0 0 (τ 0 0 0 9) n) 7 0 0 (τ 0 0 0 9) c) 8 0 0 (τ 0 0 0 9) (-1)) 0 0 0 9 (τ 0 0 0 9 + 1)) 0 0 0 1 = τ 0 0 0 1 by repeat rw [up_n (by omega)], show (up (up (up (up τ 6 0 0 (τ 0 0 0 9) n) 7 0 0 (τ 0 0 0 9) c) 8 0 0 (τ 0 0 0 9) (-1)) 0 0 0 9 (τ 0 0 0 9 + 1)) 1 0 0 = τ 1 0 0 from funext fun j => by repeat rw [up_n (by omega)]]
    exact hF,
   by
    rw [show (up (up (up (up τ 6 0 0 (τ 0 0 0 9) n) 7 0 0 (τ 0 0 0 9) c) 8 0 0 (τ 0 0 0 9) (-1)) 0 0 0 9 (τ 0 0 0 9 + 1)) 0 0 0 0 = τ 0 0 0 0 by repeat rw [up_n (by omega)]]
    exact hrd,
   by
    rw [show (up (up (up (up τ 6 0 0 (τ 0 0 0 9) n) 7 0 0 (τ 0 0 0 9) c) 8 0 0 (τ 0 0 0 9) (-1)) 0 0 0 9 (τ 0 0 0 9 + 1)) 0 0 0 17 = τ 0 0 0 17 by repeat rw [up_n (by omega)]]
    exact hak,
   by
    rw [show (up (up (up (up τ 6 0 0 (τ 0 0 0 9) n) 7 0 0 (τ 0 0 0 9) c) 8 0 0 (τ 0 0 0 9) (-1)) 0 0 0 9 (τ 0 0 0 9 + 1)) 0 0 0 18 = τ 0 0 0 18 by repeat rw [up_n (by omega)]]
    exact hpl,
   by
    rw [show (up (up (up (up τ 6 0 0 (τ 0 0 0 9) n) 7 0 0 (τ 0 0 0 9) c) 8 0 0 (τ 0 0 0 9) (-1)) 0 0 0 9 (τ 0 0 0 9 + 1)) 10 0 0 = τ 10 0 0 from funext fun j => by repeat rw [up_n (by omega)]]
    exact hpg,
   by
    rw [show (up (up (up (up τ 6 0 0 (τ 0 0 0 9) n) 7 0 0 (τ 0 0 0 9) c) 8 0 0 (τ 0 0 0 9) (-1)) 0 0 0 9 (τ 0 0 0 9 + 1)) 0 0 0 13 = τ 0 0 0 13 by repeat rw [up_n (by omega)], show (up (up (up (up τ 6 0 0 (τ 0 0 0 9) n) 7 0 0 (τ 0 0 0 9) c) 8 0 0 (τ 0 0 0 9) (-1)) 0 0 0 9 (τ 0 0 0 9 + 1)) 0 0 0 5 = τ 0 0 0 5 by repeat rw [up_n (by omega)]]
    exact hwt,
   by
    rw [show (up (up (up (up τ 6 0 0 (τ 0 0 0 9) n) 7 0 0 (τ 0 0 0 9) c) 8 0 0 (τ 0 0 0 9) (-1)) 0 0 0 9 (τ 0 0 0 9 + 1)) 0 0 0 14 = τ 0 0 0 14 by repeat rw [up_n (by omega)]]
    exact hfr,
   by
    rw [show (up (up (up (up τ 6 0 0 (τ 0 0 0 9) n) 7 0 0 (τ 0 0 0 9) c) 8 0 0 (τ 0 0 0 9) (-1)) 0 0 0 9 (τ 0 0 0 9 + 1)) 0 0 0 15 = τ 0 0 0 15 by repeat rw [up_n (by omega)]]
    exact hsn,
   by
    rw [show (up (up (up (up τ 6 0 0 (τ 0 0 0 9) n) 7 0 0 (τ 0 0 0 9) c) 8 0 0 (τ 0 0 0 9) (-1)) 0 0 0 9 (τ 0 0 0 9 + 1)) 9 0 0 = τ 9 0 0 from funext fun j => by repeat rw [up_n (by omega)]]
    exact hso,
   fun g g0 g1 => by
    rw [up_n (by omega), up_n (by omega)]
    by_cases e : g = τ 0 0 0 9
    · rw [e, up_s]
      exact hc
    · rw [up_n (by omega)]
      exact hce g g0 g1,
   by
    rw [show (up (up (up (up τ 6 0 0 (τ 0 0 0 9) n) 7 0 0 (τ 0 0 0 9) c) 8 0 0 (τ 0 0 0 9) (-1)) 0 0 0 9 (τ 0 0 0 9 + 1)) 0 0 0 30 = τ 0 0 0 30 by repeat rw [up_n (by omega)]]
    exact hkp,
   by
    rw [show (up (up (up (up τ 6 0 0 (τ 0 0 0 9) n) 7 0 0 (τ 0 0 0 9) c) 8 0 0 (τ 0 0 0 9) (-1)) 0 0 0 9 (τ 0 0 0 9 + 1)) 0 0 0 30 = τ 0 0 0 30 by repeat rw [up_n (by omega)], kv_c (τ := τ) (τ' := (up (up (up (up τ 6 0 0 (τ 0 0 0 9) n) 7 0 0 (τ 0 0 0 9) c) 8 0 0 (τ 0 0 0 9) (-1)) 0 0 0 9 (τ 0 0 0 9 + 1))) (by repeat rw [up_n (by omega)]) (by repeat rw [up_n (by omega)]) (by repeat rw [up_n (by omega)]) (by intros; repeat rw [up_n (by omega)]), show (up (up (up (up τ 6 0 0 (τ 0 0 0 9) n) 7 0 0 (τ 0 0 0 9) c) 8 0 0 (τ 0 0 0 9) (-1)) 0 0 0 9 (τ 0 0 0 9 + 1)) 0 0 0 5 = τ 0 0 0 5 by repeat rw [up_n (by omega)], show (up (up (up (up τ 6 0 0 (τ 0 0 0 9) n) 7 0 0 (τ 0 0 0 9) c) 8 0 0 (τ 0 0 0 9) (-1)) 0 0 0 9 (τ 0 0 0 9 + 1)) 0 0 0 32 = τ 0 0 0 32 by repeat rw [up_n (by omega)], show (up (up (up (up τ 6 0 0 (τ 0 0 0 9) n) 7 0 0 (τ 0 0 0 9) c) 8 0 0 (τ 0 0 0 9) (-1)) 0 0 0 9 (τ 0 0 0 9 + 1)) 0 0 0 34 = τ 0 0 0 34 by repeat rw [up_n (by omega)], show (up (up (up (up τ 6 0 0 (τ 0 0 0 9) n) 7 0 0 (τ 0 0 0 9) c) 8 0 0 (τ 0 0 0 9) (-1)) 0 0 0 9 (τ 0 0 0 9 + 1)) 0 0 0 35 = τ 0 0 0 35 by repeat rw [up_n (by omega)], show (up (up (up (up τ 6 0 0 (τ 0 0 0 9) n) 7 0 0 (τ 0 0 0 9) c) 8 0 0 (τ 0 0 0 9) (-1)) 0 0 0 9 (τ 0 0 0 9 + 1)) 0 0 0 36 = τ 0 0 0 36 by repeat rw [up_n (by omega)], show (up (up (up (up τ 6 0 0 (τ 0 0 0 9) n) 7 0 0 (τ 0 0 0 9) c) 8 0 0 (τ 0 0 0 9) (-1)) 0 0 0 9 (τ 0 0 0 9 + 1)) 16 0 0 = τ 16 0 0 from funext fun j => by repeat rw [up_n (by omega)], show (up (up (up (up τ 6 0 0 (τ 0 0 0 9) n) 7 0 0 (τ 0 0 0 9) c) 8 0 0 (τ 0 0 0 9) (-1)) 0 0 0 9 (τ 0 0 0 9 + 1)) 19 0 0 = τ 19 0 0 from funext fun j => by repeat rw [up_n (by omega)]]
    exact hkk⟩
set_option maxHeartbeats 4000000 in
theorem RC_graze {σ τ : St}  (hC : RC σ τ) : RC (up σ 0 0 0 8 (τ 0 0 0 17 + 1)) (up τ 0 0 0 17 (τ 0 0 0 17 + 1)) := by
  obtain ⟨cP, ⟨cN, cF⟩, cW, cS, cI, cK, cR, cA⟩ := hC
  refine ⟨by
    rw [show (up τ 0 0 0 17 (τ 0 0 0 17 + 1)) 10 0 0 = τ 10 0 0 from funext fun j => by repeat rw [up_n (by omega)], show (up τ 0 0 0 17 (τ 0 0 0 17 + 1)) 0 0 0 18 = τ 0 0 0 18 by repeat rw [up_n (by omega)]]
    exact cP.u (by repeat rw [up_n (by omega)]) (by intros; repeat rw [up_n (by omega)]),
   ⟨by
    rw [show (up τ 0 0 0 17 (τ 0 0 0 17 + 1)) 0 0 0 1 = τ 0 0 0 1 by repeat rw [up_n (by omega)], show (up σ 0 0 0 8 (τ 0 0 0 17 + 1)) 3 0 0 1 = σ 3 0 0 1 by repeat rw [up_n (by omega)]]
    exact cN,
   by
    rw [fv_c (τ := τ) (τ' := (up τ 0 0 0 17 (τ 0 0 0 17 + 1))) (by repeat rw [up_n (by omega)]) (by intros; repeat rw [up_n (by omega)])]
    exact cF.u (by intros; repeat rw [up_n (by omega)])⟩,
   by
    rw [wv_c (τ := τ) (τ' := (up τ 0 0 0 17 (τ 0 0 0 17 + 1))) (by repeat rw [up_n (by omega)]) (by repeat rw [up_n (by omega)]) (by repeat rw [up_n (by omega)]) (by intros; repeat rw [up_n (by omega)])]
    exact cW.u (by intros; repeat rw [up_n (by omega)]),
   by
    rw [show (up τ 0 0 0 17 (τ 0 0 0 17 + 1)) 9 0 0 = τ 9 0 0 from funext fun j => by repeat rw [up_n (by omega)], show (up τ 0 0 0 17 (τ 0 0 0 17 + 1)) 0 0 0 13 = τ 0 0 0 13 by repeat rw [up_n (by omega)], show (up τ 0 0 0 17 (τ 0 0 0 17 + 1)) 0 0 0 14 = τ 0 0 0 14 by repeat rw [up_n (by omega)], show (up τ 0 0 0 17 (τ 0 0 0 17 + 1)) 0 0 0 15 = τ 0 0 0 15 by repeat rw [up_n (by omega)]]
    exact cS.u (by intros; repeat rw [up_n (by omega)]),
   by
    rw [show (up τ 0 0 0 17 (τ 0 0 0 17 + 1)) 0 0 0 30 = τ 0 0 0 30 by repeat rw [up_n (by omega)], show (up σ 0 0 0 8 (τ 0 0 0 17 + 1)) 0 0 0 6 = σ 0 0 0 6 by repeat rw [up_n (by omega)]]
    exact cI,
   by
    rw [show (up τ 0 0 0 17 (τ 0 0 0 17 + 1)) 0 0 0 30 = τ 0 0 0 30 by repeat rw [up_n (by omega)], kv_c (τ := τ) (τ' := (up τ 0 0 0 17 (τ 0 0 0 17 + 1))) (by repeat rw [up_n (by omega)]) (by repeat rw [up_n (by omega)]) (by repeat rw [up_n (by omega)]) (by intros; repeat rw [up_n (by omega)]), show (up τ 0 0 0 17 (τ 0 0 0 17 + 1)) 16 0 0 = τ 16 0 0 from funext fun j => by repeat rw [up_n (by omega)], show (up τ 0 0 0 17 (τ 0 0 0 17 + 1)) 0 0 0 34 = τ 0 0 0 34 by repeat rw [up_n (by omega)], show (up τ 0 0 0 17 (τ 0 0 0 17 + 1)) 0 0 0 35 = τ 0 0 0 35 by repeat rw [up_n (by omega)], show (up τ 0 0 0 17 (τ 0 0 0 17 + 1)) 0 0 0 36 = τ 0 0 0 36 by repeat rw [up_n (by omega)]]
    exact fun q => ⟨(cK q).1.u (by intros; repeat rw [up_n (by omega)]), (cK q).2.u (by intros; repeat rw [up_n (by omega)])⟩,
   by
    rw [show (up τ 0 0 0 17 (τ 0 0 0 17 + 1)) 0 0 0 0 = τ 0 0 0 0 by repeat rw [up_n (by omega)], show (up σ 0 0 0 8 (τ 0 0 0 17 + 1)) 0 0 0 7 = σ 0 0 0 7 by repeat rw [up_n (by omega)]]
    exact cR,
   by rw [up_s, up_s]⟩
theorem IM_graze {B : Int} {τ : St} (ha : τ 0 0 0 17 ≠ 60) (hI : IM B τ) : IM B (up τ 0 0 0 17 (τ 0 0 0 17 + 1)) := by
  obtain ⟨hW, hF, hrd, hak, hpl, hpg, hwt, hfr, hsn, hso, hce, hkp, hkk⟩ := hI
  refine ⟨by
    rw [wv_c (τ := τ) (τ' := (up τ 0 0 0 17 (τ 0 0 0 17 + 1))) (by repeat rw [up_n (by omega)]) (by repeat rw [up_n (by omega)]) (by repeat rw [up_n (by omega)]) (by intros; repeat rw [up_n (by omega)])]
    exact hW,
   by
    rw [show (up τ 0 0 0 17 (τ 0 0 0 17 + 1)) 0 0 0 1 = τ 0 0 0 1 by repeat rw [up_n (by omega)], show (up τ 0 0 0 17 (τ 0 0 0 17 + 1)) 1 0 0 = τ 1 0 0 from funext fun j => by repeat rw [up_n (by omega)]]
    exact hF,
   by
    rw [show (up τ 0 0 0 17 (τ 0 0 0 17 + 1)) 0 0 0 0 = τ 0 0 0 0 by repeat rw [up_n (by omega)]]
    exact hrd,
   by
    rw [up_s]
    omega,
   by
    rw [show (up τ 0 0 0 17 (τ 0 0 0 17 + 1)) 0 0 0 18 = τ 0 0 0 18 by repeat rw [up_n (by omega)]]
    exact hpl,
   by
    rw [show (up τ 0 0 0 17 (τ 0 0 0 17 + 1)) 10 0 0 = τ 10 0 0 from funext fun j => by repeat rw [up_n (by omega)]]
    exact hpg,
   by
    rw [show (up τ 0 0 0 17 (τ 0 0 0 17 + 1)) 0 0 0 13 = τ 0 0 0 13 by repeat rw [up_n (by omega)], show (up τ 0 0 0 17 (τ 0 0 0 17 + 1)) 0 0 0 5 = τ 0 0 0 5 by repeat rw [up_n (by omega)]]
    exact hwt,
   by
    rw [show (up τ 0 0 0 17 (τ 0 0 0 17 + 1)) 0 0 0 14 = τ 0 0 0 14 by repeat rw [up_n (by omega)]]
    exact hfr,
   by
    rw [show (up τ 0 0 0 17 (τ 0 0 0 17 + 1)) 0 0 0 15 = τ 0 0 0 15 by repeat rw [up_n (by omega)]]
    exact hsn,
   by
    rw [show (up τ 0 0 0 17 (τ 0 0 0 17 + 1)) 9 0 0 = τ 9 0 0 from funext fun j => by repeat rw [up_n (by omega)]]
    exact hso,
   by
    rw [show (up τ 0 0 0 17 (τ 0 0 0 17 + 1)) 7 0 0 = τ 7 0 0 from funext fun j => by repeat rw [up_n (by omega)]]
    exact hce,
   by
    rw [show (up τ 0 0 0 17 (τ 0 0 0 17 + 1)) 0 0 0 30 = τ 0 0 0 30 by repeat rw [up_n (by omega)]]
    exact hkp,
   by
    rw [show (up τ 0 0 0 17 (τ 0 0 0 17 + 1)) 0 0 0 30 = τ 0 0 0 30 by repeat rw [up_n (by omega)], kv_c (τ := τ) (τ' := (up τ 0 0 0 17 (τ 0 0 0 17 + 1))) (by repeat rw [up_n (by omega)]) (by repeat rw [up_n (by omega)]) (by repeat rw [up_n (by omega)]) (by intros; repeat rw [up_n (by omega)]), show (up τ 0 0 0 17 (τ 0 0 0 17 + 1)) 0 0 0 5 = τ 0 0 0 5 by repeat rw [up_n (by omega)], show (up τ 0 0 0 17 (τ 0 0 0 17 + 1)) 0 0 0 32 = τ 0 0 0 32 by repeat rw [up_n (by omega)], show (up τ 0 0 0 17 (τ 0 0 0 17 + 1)) 0 0 0 34 = τ 0 0 0 34 by repeat rw [up_n (by omega)], show (up τ 0 0 0 17 (τ 0 0 0 17 + 1)) 0 0 0 35 = τ 0 0 0 35 by repeat rw [up_n (by omega)], show (up τ 0 0 0 17 (τ 0 0 0 17 + 1)) 0 0 0 36 = τ 0 0 0 36 by repeat rw [up_n (by omega)], show (up τ 0 0 0 17 (τ 0 0 0 17 + 1)) 16 0 0 = τ 16 0 0 from funext fun j => by repeat rw [up_n (by omega)], show (up τ 0 0 0 17 (τ 0 0 0 17 + 1)) 19 0 0 = τ 19 0 0 from funext fun j => by repeat rw [up_n (by omega)]]
    exact hkk⟩
set_option maxHeartbeats 4000000 in
theorem RC_watch {σ τ : St} {p : Int} (hC : RC σ τ) : RC (up (up (up (up σ 10 0 0 0 p) 10 0 0 1 (τ 0 0 0 3)) 10 0 0 2 0) 10 0 0 3 0) (up (up (up τ 0 0 0 13 p) 0 0 0 14 (τ 0 0 0 3)) 0 0 0 15 0) := by
  obtain ⟨cP, ⟨cN, cF⟩, cW, cS, cI, cK, cR, cA⟩ := hC
  refine ⟨by
    rw [show (up (up (up τ 0 0 0 13 p) 0 0 0 14 (τ 0 0 0 3)) 0 0 0 15 0) 10 0 0 = τ 10 0 0 from funext fun j => by repeat rw [up_n (by omega)], show (up (up (up τ 0 0 0 13 p) 0 0 0 14 (τ 0 0 0 3)) 0 0 0 15 0) 0 0 0 18 = τ 0 0 0 18 by repeat rw [up_n (by omega)]]
    exact cP.u (by repeat rw [up_n (by omega)]) (by intros; repeat rw [up_n (by omega)]),
   ⟨by
    rw [show (up (up (up τ 0 0 0 13 p) 0 0 0 14 (τ 0 0 0 3)) 0 0 0 15 0) 0 0 0 1 = τ 0 0 0 1 by repeat rw [up_n (by omega)], show (up (up (up (up σ 10 0 0 0 p) 10 0 0 1 (τ 0 0 0 3)) 10 0 0 2 0) 10 0 0 3 0) 3 0 0 1 = σ 3 0 0 1 by repeat rw [up_n (by omega)]]
    exact cN,
   by
    rw [fv_c (τ := τ) (τ' := (up (up (up τ 0 0 0 13 p) 0 0 0 14 (τ 0 0 0 3)) 0 0 0 15 0)) (by repeat rw [up_n (by omega)]) (by intros; repeat rw [up_n (by omega)])]
    exact cF.u (by intros; repeat rw [up_n (by omega)])⟩,
   by
    rw [wv_c (τ := τ) (τ' := (up (up (up τ 0 0 0 13 p) 0 0 0 14 (τ 0 0 0 3)) 0 0 0 15 0)) (by repeat rw [up_n (by omega)]) (by repeat rw [up_n (by omega)]) (by repeat rw [up_n (by omega)]) (by intros; repeat rw [up_n (by omega)])]
    exact cW.u (by intros; repeat rw [up_n (by omega)]),
   by
    refine ⟨?_, ?_, ?_, ?_⟩
    · rw [up_n (by omega), up_n (by omega), up_n (by omega), up_s, up_n (by omega), up_n (by omega), up_s]
    · rw [up_n (by omega), up_n (by omega), up_s, up_n (by omega), up_s]
    · rw [up_n (by omega), up_s, up_s]
    · rw [up_s, up_s]
      have : mk8 (fun _ => false) = 0 := rfl
      rw [← this]
      unfold mk8
      simp,
   by
    rw [show (up (up (up τ 0 0 0 13 p) 0 0 0 14 (τ 0 0 0 3)) 0 0 0 15 0) 0 0 0 30 = τ 0 0 0 30 by repeat rw [up_n (by omega)], show (up (up (up (up σ 10 0 0 0 p) 10 0 0 1 (τ 0 0 0 3)) 10 0 0 2 0) 10 0 0 3 0) 0 0 0 6 = σ 0 0 0 6 by repeat rw [up_n (by omega)]]
    exact cI,
   by
    rw [show (up (up (up τ 0 0 0 13 p) 0 0 0 14 (τ 0 0 0 3)) 0 0 0 15 0) 0 0 0 30 = τ 0 0 0 30 by repeat rw [up_n (by omega)], kv_c (τ := τ) (τ' := (up (up (up τ 0 0 0 13 p) 0 0 0 14 (τ 0 0 0 3)) 0 0 0 15 0)) (by repeat rw [up_n (by omega)]) (by repeat rw [up_n (by omega)]) (by repeat rw [up_n (by omega)]) (by intros; repeat rw [up_n (by omega)]), show (up (up (up τ 0 0 0 13 p) 0 0 0 14 (τ 0 0 0 3)) 0 0 0 15 0) 16 0 0 = τ 16 0 0 from funext fun j => by repeat rw [up_n (by omega)], show (up (up (up τ 0 0 0 13 p) 0 0 0 14 (τ 0 0 0 3)) 0 0 0 15 0) 0 0 0 34 = τ 0 0 0 34 by repeat rw [up_n (by omega)], show (up (up (up τ 0 0 0 13 p) 0 0 0 14 (τ 0 0 0 3)) 0 0 0 15 0) 0 0 0 35 = τ 0 0 0 35 by repeat rw [up_n (by omega)], show (up (up (up τ 0 0 0 13 p) 0 0 0 14 (τ 0 0 0 3)) 0 0 0 15 0) 0 0 0 36 = τ 0 0 0 36 by repeat rw [up_n (by omega)]]
    exact fun q => ⟨(cK q).1.u (by intros; repeat rw [up_n (by omega)]), (cK q).2.u (by intros; repeat rw [up_n (by omega)])⟩,
   by
    rw [show (up (up (up τ 0 0 0 13 p) 0 0 0 14 (τ 0 0 0 3)) 0 0 0 15 0) 0 0 0 0 = τ 0 0 0 0 by repeat rw [up_n (by omega)], show (up (up (up (up σ 10 0 0 0 p) 10 0 0 1 (τ 0 0 0 3)) 10 0 0 2 0) 10 0 0 3 0) 0 0 0 7 = σ 0 0 0 7 by repeat rw [up_n (by omega)]]
    exact cR,
   by
    rw [show (up (up (up τ 0 0 0 13 p) 0 0 0 14 (τ 0 0 0 3)) 0 0 0 15 0) 0 0 0 17 = τ 0 0 0 17 by repeat rw [up_n (by omega)], show (up (up (up (up σ 10 0 0 0 p) 10 0 0 1 (τ 0 0 0 3)) 10 0 0 2 0) 10 0 0 3 0) 0 0 0 8 = σ 0 0 0 8 by repeat rw [up_n (by omega)]]
    exact cA⟩
theorem IM_watch {B : Int} {τ : St} {p : Int} (hp : 0 ≤ p ∧ p < τ 0 0 0 5) (hI : IM B τ) : IM B (up (up (up τ 0 0 0 13 p) 0 0 0 14 (τ 0 0 0 3)) 0 0 0 15 0) := by
  obtain ⟨hW, hF, hrd, hak, hpl, hpg, hwt, hfr, hsn, hso, hce, hkp, hkk⟩ := hI
  refine ⟨by
    rw [wv_c (τ := τ) (τ' := (up (up (up τ 0 0 0 13 p) 0 0 0 14 (τ 0 0 0 3)) 0 0 0 15 0)) (by repeat rw [up_n (by omega)]) (by repeat rw [up_n (by omega)]) (by repeat rw [up_n (by omega)]) (by intros; repeat rw [up_n (by omega)])]
    exact hW,
   by
    rw [show (up (up (up τ 0 0 0 13 p) 0 0 0 14 (τ 0 0 0 3)) 0 0 0 15 0) 0 0 0 1 = τ 0 0 0 1 by repeat rw [up_n (by omega)], show (up (up (up τ 0 0 0 13 p) 0 0 0 14 (τ 0 0 0 3)) 0 0 0 15 0) 1 0 0 = τ 1 0 0 from funext fun j => by repeat rw [up_n (by omega)]]
    exact hF,
   by
    rw [show (up (up (up τ 0 0 0 13 p) 0 0 0 14 (τ 0 0 0 3)) 0 0 0 15 0) 0 0 0 0 = τ 0 0 0 0 by repeat rw [up_n (by omega)]]
    exact hrd,
   by
    rw [show (up (up (up τ 0 0 0 13 p) 0 0 0 14 (τ 0 0 0 3)) 0 0 0 15 0) 0 0 0 17 = τ 0 0 0 17 by repeat rw [up_n (by omega)]]
    exact hak,
   by
    rw [show (up (up (up τ 0 0 0 13 p) 0 0 0 14 (τ 0 0 0 3)) 0 0 0 15 0) 0 0 0 18 = τ 0 0 0 18 by repeat rw [up_n (by omega)]]
    exact hpl,
   by
    rw [show (up (up (up τ 0 0 0 13 p) 0 0 0 14 (τ 0 0 0 3)) 0 0 0 15 0) 10 0 0 = τ 10 0 0 from funext fun j => by repeat rw [up_n (by omega)]]
    exact hpg,
   by
    rw [show (up (up (up τ 0 0 0 13 p) 0 0 0 14 (τ 0 0 0 3)) 0 0 0 15 0) 0 0 0 5 = τ 0 0 0 5 by repeat rw [up_n (by omega)], up_n (by omega), up_n (by omega), up_s]
    omega,
   by
    rw [up_n (by omega), up_s]
    exact hW.2.2.1,
   by
    rw [up_s]
    omega,
   by
    rw [show (up (up (up τ 0 0 0 13 p) 0 0 0 14 (τ 0 0 0 3)) 0 0 0 15 0) 9 0 0 = τ 9 0 0 from funext fun j => by repeat rw [up_n (by omega)]]
    exact hso,
   by
    rw [show (up (up (up τ 0 0 0 13 p) 0 0 0 14 (τ 0 0 0 3)) 0 0 0 15 0) 7 0 0 = τ 7 0 0 from funext fun j => by repeat rw [up_n (by omega)]]
    exact hce,
   by
    rw [show (up (up (up τ 0 0 0 13 p) 0 0 0 14 (τ 0 0 0 3)) 0 0 0 15 0) 0 0 0 30 = τ 0 0 0 30 by repeat rw [up_n (by omega)]]
    exact hkp,
   by
    rw [show (up (up (up τ 0 0 0 13 p) 0 0 0 14 (τ 0 0 0 3)) 0 0 0 15 0) 0 0 0 30 = τ 0 0 0 30 by repeat rw [up_n (by omega)], kv_c (τ := τ) (τ' := (up (up (up τ 0 0 0 13 p) 0 0 0 14 (τ 0 0 0 3)) 0 0 0 15 0)) (by repeat rw [up_n (by omega)]) (by repeat rw [up_n (by omega)]) (by repeat rw [up_n (by omega)]) (by intros; repeat rw [up_n (by omega)]), show (up (up (up τ 0 0 0 13 p) 0 0 0 14 (τ 0 0 0 3)) 0 0 0 15 0) 0 0 0 5 = τ 0 0 0 5 by repeat rw [up_n (by omega)], show (up (up (up τ 0 0 0 13 p) 0 0 0 14 (τ 0 0 0 3)) 0 0 0 15 0) 0 0 0 32 = τ 0 0 0 32 by repeat rw [up_n (by omega)], show (up (up (up τ 0 0 0 13 p) 0 0 0 14 (τ 0 0 0 3)) 0 0 0 15 0) 0 0 0 34 = τ 0 0 0 34 by repeat rw [up_n (by omega)], show (up (up (up τ 0 0 0 13 p) 0 0 0 14 (τ 0 0 0 3)) 0 0 0 15 0) 0 0 0 35 = τ 0 0 0 35 by repeat rw [up_n (by omega)], show (up (up (up τ 0 0 0 13 p) 0 0 0 14 (τ 0 0 0 3)) 0 0 0 15 0) 0 0 0 36 = τ 0 0 0 36 by repeat rw [up_n (by omega)], show (up (up (up τ 0 0 0 13 p) 0 0 0 14 (τ 0 0 0 3)) 0 0 0 15 0) 16 0 0 = τ 16 0 0 from funext fun j => by repeat rw [up_n (by omega)], show (up (up (up τ 0 0 0 13 p) 0 0 0 14 (τ 0 0 0 3)) 0 0 0 15 0) 19 0 0 = τ 19 0 0 from funext fun j => by repeat rw [up_n (by omega)]]
    exact hkk⟩
set_option maxHeartbeats 4000000 in
theorem RC_seent {σ τ : St} (h0 : 0 ≤ τ 0 0 0 15) (h8 : τ 0 0 0 15 < 8) (hC : RC σ τ) : RC (up (up σ 10 0 0 3 (mk8 (fun j => (decide (j < τ 0 0 0 15) && decide (τ 9 0 0 j ≠ 0)) || decide (j = τ 0 0 0 15)))) 10 0 0 2 (τ 0 0 0 15 + 1)) (up (up τ 9 0 0 (τ 0 0 0 15) 1) 0 0 0 15 (τ 0 0 0 15 + 1)) := by
  obtain ⟨cP, ⟨cN, cF⟩, cW, cS, cI, cK, cR, cA⟩ := hC
  refine ⟨by
    rw [show (up (up τ 9 0 0 (τ 0 0 0 15) 1) 0 0 0 15 (τ 0 0 0 15 + 1)) 10 0 0 = τ 10 0 0 from funext fun j => by repeat rw [up_n (by omega)], show (up (up τ 9 0 0 (τ 0 0 0 15) 1) 0 0 0 15 (τ 0 0 0 15 + 1)) 0 0 0 18 = τ 0 0 0 18 by repeat rw [up_n (by omega)]]
    exact cP.u (by repeat rw [up_n (by omega)]) (by intros; repeat rw [up_n (by omega)]),
   ⟨by
    rw [show (up (up τ 9 0 0 (τ 0 0 0 15) 1) 0 0 0 15 (τ 0 0 0 15 + 1)) 0 0 0 1 = τ 0 0 0 1 by repeat rw [up_n (by omega)], show (up (up σ 10 0 0 3 (mk8 (fun j => (decide (j < τ 0 0 0 15) && decide (τ 9 0 0 j ≠ 0)) || decide (j = τ 0 0 0 15)))) 10 0 0 2 (τ 0 0 0 15 + 1)) 3 0 0 1 = σ 3 0 0 1 by repeat rw [up_n (by omega)]]
    exact cN,
   by
    rw [fv_c (τ := τ) (τ' := (up (up τ 9 0 0 (τ 0 0 0 15) 1) 0 0 0 15 (τ 0 0 0 15 + 1))) (by repeat rw [up_n (by omega)]) (by intros; repeat rw [up_n (by omega)])]
    exact cF.u (by intros; repeat rw [up_n (by omega)])⟩,
   by
    rw [wv_c (τ := τ) (τ' := (up (up τ 9 0 0 (τ 0 0 0 15) 1) 0 0 0 15 (τ 0 0 0 15 + 1))) (by repeat rw [up_n (by omega)]) (by repeat rw [up_n (by omega)]) (by repeat rw [up_n (by omega)]) (by intros; repeat rw [up_n (by omega)])]
    exact cW.u (by intros; repeat rw [up_n (by omega)]),
   by
    obtain ⟨q1, q2, q3, q4⟩ := cS
    refine ⟨?_, ?_, ?_, ?_⟩
    · rw [show (up (up τ 9 0 0 (τ 0 0 0 15) 1) 0 0 0 15 (τ 0 0 0 15 + 1)) 0 0 0 13 = τ 0 0 0 13 by repeat rw [up_n (by omega)], show (up (up σ 10 0 0 3 (mk8 (fun j => (decide (j < τ 0 0 0 15) && decide (τ 9 0 0 j ≠ 0)) || decide (j = τ 0 0 0 15)))) 10 0 0 2 (τ 0 0 0 15 + 1)) 10 0 0 0 = σ 10 0 0 0 by repeat rw [up_n (by omega)]]
      exact q1
    · rw [show (up (up τ 9 0 0 (τ 0 0 0 15) 1) 0 0 0 15 (τ 0 0 0 15 + 1)) 0 0 0 14 = τ 0 0 0 14 by repeat rw [up_n (by omega)], show (up (up σ 10 0 0 3 (mk8 (fun j => (decide (j < τ 0 0 0 15) && decide (τ 9 0 0 j ≠ 0)) || decide (j = τ 0 0 0 15)))) 10 0 0 2 (τ 0 0 0 15 + 1)) 10 0 0 1 = σ 10 0 0 1 by repeat rw [up_n (by omega)]]
      exact q2
    · rw [up_s, up_s]
    · rw [up_n (by omega), up_s]
      rw [up_s]
      refine mk8_c (fun j j0 j1 => ?_)
      rw [show (up (up τ 9 0 0 (τ 0 0 0 15) 1) 0 0 0 15 (τ 0 0 0 15 + 1)) 9 0 0 j = (up τ 9 0 0 (τ 0 0 0 15) 1) 9 0 0 j from up_n (by omega)]
      by_cases e : j = τ 0 0 0 15
      · rw [e, up_s]
        simp
        try omega
      · rw [up_n (by omega), show decide (j < τ 0 0 0 15 + 1) = decide (j < τ 0 0 0 15) from decide_eq_decide.2 (by omega)]
        try simp [e],
   by
    rw [show (up (up τ 9 0 0 (τ 0 0 0 15) 1) 0 0 0 15 (τ 0 0 0 15 + 1)) 0 0 0 30 = τ 0 0 0 30 by repeat rw [up_n (by omega)], show (up (up σ 10 0 0 3 (mk8 (fun j => (decide (j < τ 0 0 0 15) && decide (τ 9 0 0 j ≠ 0)) || decide (j = τ 0 0 0 15)))) 10 0 0 2 (τ 0 0 0 15 + 1)) 0 0 0 6 = σ 0 0 0 6 by repeat rw [up_n (by omega)]]
    exact cI,
   by
    rw [show (up (up τ 9 0 0 (τ 0 0 0 15) 1) 0 0 0 15 (τ 0 0 0 15 + 1)) 0 0 0 30 = τ 0 0 0 30 by repeat rw [up_n (by omega)], kv_c (τ := τ) (τ' := (up (up τ 9 0 0 (τ 0 0 0 15) 1) 0 0 0 15 (τ 0 0 0 15 + 1))) (by repeat rw [up_n (by omega)]) (by repeat rw [up_n (by omega)]) (by repeat rw [up_n (by omega)]) (by intros; repeat rw [up_n (by omega)]), show (up (up τ 9 0 0 (τ 0 0 0 15) 1) 0 0 0 15 (τ 0 0 0 15 + 1)) 16 0 0 = τ 16 0 0 from funext fun j => by repeat rw [up_n (by omega)], show (up (up τ 9 0 0 (τ 0 0 0 15) 1) 0 0 0 15 (τ 0 0 0 15 + 1)) 0 0 0 34 = τ 0 0 0 34 by repeat rw [up_n (by omega)], show (up (up τ 9 0 0 (τ 0 0 0 15) 1) 0 0 0 15 (τ 0 0 0 15 + 1)) 0 0 0 35 = τ 0 0 0 35 by repeat rw [up_n (by omega)], show (up (up τ 9 0 0 (τ 0 0 0 15) 1) 0 0 0 15 (τ 0 0 0 15 + 1)) 0 0 0 36 = τ 0 0 0 36 by repeat rw [up_n (by omega)]]
    exact fun q => ⟨(cK q).1.u (by intros; repeat rw [up_n (by omega)]), (cK q).2.u (by intros; repeat rw [up_n (by omega)])⟩,
   by
    rw [show (up (up τ 9 0 0 (τ 0 0 0 15) 1) 0 0 0 15 (τ 0 0 0 15 + 1)) 0 0 0 0 = τ 0 0 0 0 by repeat rw [up_n (by omega)], show (up (up σ 10 0 0 3 (mk8 (fun j => (decide (j < τ 0 0 0 15) && decide (τ 9 0 0 j ≠ 0)) || decide (j = τ 0 0 0 15)))) 10 0 0 2 (τ 0 0 0 15 + 1)) 0 0 0 7 = σ 0 0 0 7 by repeat rw [up_n (by omega)]]
    exact cR,
   by
    rw [show (up (up τ 9 0 0 (τ 0 0 0 15) 1) 0 0 0 15 (τ 0 0 0 15 + 1)) 0 0 0 17 = τ 0 0 0 17 by repeat rw [up_n (by omega)], show (up (up σ 10 0 0 3 (mk8 (fun j => (decide (j < τ 0 0 0 15) && decide (τ 9 0 0 j ≠ 0)) || decide (j = τ 0 0 0 15)))) 10 0 0 2 (τ 0 0 0 15 + 1)) 0 0 0 8 = σ 0 0 0 8 by repeat rw [up_n (by omega)]]
    exact cA⟩
set_option maxHeartbeats 4000000 in
theorem RC_seenf {σ τ : St} (h0 : 0 ≤ τ 0 0 0 15) (h8 : τ 0 0 0 15 < 8) (hC : RC σ τ) : RC (up σ 10 0 0 2 (τ 0 0 0 15 + 1)) (up (up τ 9 0 0 (τ 0 0 0 15) 0) 0 0 0 15 (τ 0 0 0 15 + 1)) := by
  obtain ⟨cP, ⟨cN, cF⟩, cW, cS, cI, cK, cR, cA⟩ := hC
  refine ⟨by
    rw [show (up (up τ 9 0 0 (τ 0 0 0 15) 0) 0 0 0 15 (τ 0 0 0 15 + 1)) 10 0 0 = τ 10 0 0 from funext fun j => by repeat rw [up_n (by omega)], show (up (up τ 9 0 0 (τ 0 0 0 15) 0) 0 0 0 15 (τ 0 0 0 15 + 1)) 0 0 0 18 = τ 0 0 0 18 by repeat rw [up_n (by omega)]]
    exact cP.u (by repeat rw [up_n (by omega)]) (by intros; repeat rw [up_n (by omega)]),
   ⟨by
    rw [show (up (up τ 9 0 0 (τ 0 0 0 15) 0) 0 0 0 15 (τ 0 0 0 15 + 1)) 0 0 0 1 = τ 0 0 0 1 by repeat rw [up_n (by omega)], show (up σ 10 0 0 2 (τ 0 0 0 15 + 1)) 3 0 0 1 = σ 3 0 0 1 by repeat rw [up_n (by omega)]]
    exact cN,
   by
    rw [fv_c (τ := τ) (τ' := (up (up τ 9 0 0 (τ 0 0 0 15) 0) 0 0 0 15 (τ 0 0 0 15 + 1))) (by repeat rw [up_n (by omega)]) (by intros; repeat rw [up_n (by omega)])]
    exact cF.u (by intros; repeat rw [up_n (by omega)])⟩,
   by
    rw [wv_c (τ := τ) (τ' := (up (up τ 9 0 0 (τ 0 0 0 15) 0) 0 0 0 15 (τ 0 0 0 15 + 1))) (by repeat rw [up_n (by omega)]) (by repeat rw [up_n (by omega)]) (by repeat rw [up_n (by omega)]) (by intros; repeat rw [up_n (by omega)])]
    exact cW.u (by intros; repeat rw [up_n (by omega)]),
   by
    obtain ⟨q1, q2, q3, q4⟩ := cS
    refine ⟨?_, ?_, ?_, ?_⟩
    · rw [show (up (up τ 9 0 0 (τ 0 0 0 15) 0) 0 0 0 15 (τ 0 0 0 15 + 1)) 0 0 0 13 = τ 0 0 0 13 by repeat rw [up_n (by omega)], show (up σ 10 0 0 2 (τ 0 0 0 15 + 1)) 10 0 0 0 = σ 10 0 0 0 by repeat rw [up_n (by omega)]]
      exact q1
    · rw [show (up (up τ 9 0 0 (τ 0 0 0 15) 0) 0 0 0 15 (τ 0 0 0 15 + 1)) 0 0 0 14 = τ 0 0 0 14 by repeat rw [up_n (by omega)], show (up σ 10 0 0 2 (τ 0 0 0 15 + 1)) 10 0 0 1 = σ 10 0 0 1 by repeat rw [up_n (by omega)]]
      exact q2
    · rw [up_s, up_s]
    · rw [up_n (by omega), up_s]
      rw [q4]
      refine mk8_c (fun j j0 j1 => ?_)
      rw [show (up (up τ 9 0 0 (τ 0 0 0 15) 0) 0 0 0 15 (τ 0 0 0 15 + 1)) 9 0 0 j = (up τ 9 0 0 (τ 0 0 0 15) 0) 9 0 0 j from up_n (by omega)]
      by_cases e : j = τ 0 0 0 15
      · rw [e, up_s]
        simp
        try omega
      · rw [up_n (by omega), show decide (j < τ 0 0 0 15 + 1) = decide (j < τ 0 0 0 15) from decide_eq_decide.2 (by omega)]
        try simp [e],
   by
    rw [show (up (up τ 9 0 0 (τ 0 0 0 15) 0) 0 0 0 15 (τ 0 0 0 15 + 1)) 0 0 0 30 = τ 0 0 0 30 by repeat rw [up_n (by omega)], show (up σ 10 0 0 2 (τ 0 0 0 15 + 1)) 0 0 0 6 = σ 0 0 0 6 by repeat rw [up_n (by omega)]]
    exact cI,
   by
    rw [show (up (up τ 9 0 0 (τ 0 0 0 15) 0) 0 0 0 15 (τ 0 0 0 15 + 1)) 0 0 0 30 = τ 0 0 0 30 by repeat rw [up_n (by omega)], kv_c (τ := τ) (τ' := (up (up τ 9 0 0 (τ 0 0 0 15) 0) 0 0 0 15 (τ 0 0 0 15 + 1))) (by repeat rw [up_n (by omega)]) (by repeat rw [up_n (by omega)]) (by repeat rw [up_n (by omega)]) (by intros; repeat rw [up_n (by omega)]), show (up (up τ 9 0 0 (τ 0 0 0 15) 0) 0 0 0 15 (τ 0 0 0 15 + 1)) 16 0 0 = τ 16 0 0 from funext fun j => by repeat rw [up_n (by omega)], show (up (up τ 9 0 0 (τ 0 0 0 15) 0) 0 0 0 15 (τ 0 0 0 15 + 1)) 0 0 0 34 = τ 0 0 0 34 by repeat rw [up_n (by omega)], show (up (up τ 9 0 0 (τ 0 0 0 15) 0) 0 0 0 15 (τ 0 0 0 15 + 1)) 0 0 0 35 = τ 0 0 0 35 by repeat rw [up_n (by omega)], show (up (up τ 9 0 0 (τ 0 0 0 15) 0) 0 0 0 15 (τ 0 0 0 15 + 1)) 0 0 0 36 = τ 0 0 0 36 by repeat rw [up_n (by omega)]]
    exact fun q => ⟨(cK q).1.u (by intros; repeat rw [up_n (by omega)]), (cK q).2.u (by intros; repeat rw [up_n (by omega)])⟩,
   by
    rw [show (up (up τ 9 0 0 (τ 0 0 0 15) 0) 0 0 0 15 (τ 0 0 0 15 + 1)) 0 0 0 0 = τ 0 0 0 0 by repeat rw [up_n (by omega)], show (up σ 10 0 0 2 (τ 0 0 0 15 + 1)) 0 0 0 7 = σ 0 0 0 7 by repeat rw [up_n (by omega)]]
    exact cR,
   by
    rw [show (up (up τ 9 0 0 (τ 0 0 0 15) 0) 0 0 0 15 (τ 0 0 0 15 + 1)) 0 0 0 17 = τ 0 0 0 17 by repeat rw [up_n (by omega)], show (up σ 10 0 0 2 (τ 0 0 0 15 + 1)) 0 0 0 8 = σ 0 0 0 8 by repeat rw [up_n (by omega)]]
    exact cA⟩
theorem IM_seen {B : Int} {τ : St} {b : Int} (hb : 0 ≤ b ∧ b ≤ 1) (h8 : τ 0 0 0 15 ≠ 8) (hI : IM B τ) : IM B (up (up τ 9 0 0 (τ 0 0 0 15) b) 0 0 0 15 (τ 0 0 0 15 + 1)) := by
  obtain ⟨hW, hF, hrd, hak, hpl, hpg, hwt, hfr, hsn, hso, hce, hkp, hkk⟩ := hI
  refine ⟨by
    rw [wv_c (τ := τ) (τ' := (up (up τ 9 0 0 (τ 0 0 0 15) b) 0 0 0 15 (τ 0 0 0 15 + 1))) (by repeat rw [up_n (by omega)]) (by repeat rw [up_n (by omega)]) (by repeat rw [up_n (by omega)]) (by intros; repeat rw [up_n (by omega)])]
    exact hW,
   by
    rw [show (up (up τ 9 0 0 (τ 0 0 0 15) b) 0 0 0 15 (τ 0 0 0 15 + 1)) 0 0 0 1 = τ 0 0 0 1 by repeat rw [up_n (by omega)], show (up (up τ 9 0 0 (τ 0 0 0 15) b) 0 0 0 15 (τ 0 0 0 15 + 1)) 1 0 0 = τ 1 0 0 from funext fun j => by repeat rw [up_n (by omega)]]
    exact hF,
   by
    rw [show (up (up τ 9 0 0 (τ 0 0 0 15) b) 0 0 0 15 (τ 0 0 0 15 + 1)) 0 0 0 0 = τ 0 0 0 0 by repeat rw [up_n (by omega)]]
    exact hrd,
   by
    rw [show (up (up τ 9 0 0 (τ 0 0 0 15) b) 0 0 0 15 (τ 0 0 0 15 + 1)) 0 0 0 17 = τ 0 0 0 17 by repeat rw [up_n (by omega)]]
    exact hak,
   by
    rw [show (up (up τ 9 0 0 (τ 0 0 0 15) b) 0 0 0 15 (τ 0 0 0 15 + 1)) 0 0 0 18 = τ 0 0 0 18 by repeat rw [up_n (by omega)]]
    exact hpl,
   by
    rw [show (up (up τ 9 0 0 (τ 0 0 0 15) b) 0 0 0 15 (τ 0 0 0 15 + 1)) 10 0 0 = τ 10 0 0 from funext fun j => by repeat rw [up_n (by omega)]]
    exact hpg,
   by
    rw [show (up (up τ 9 0 0 (τ 0 0 0 15) b) 0 0 0 15 (τ 0 0 0 15 + 1)) 0 0 0 13 = τ 0 0 0 13 by repeat rw [up_n (by omega)], show (up (up τ 9 0 0 (τ 0 0 0 15) b) 0 0 0 15 (τ 0 0 0 15 + 1)) 0 0 0 5 = τ 0 0 0 5 by repeat rw [up_n (by omega)]]
    exact hwt,
   by
    rw [show (up (up τ 9 0 0 (τ 0 0 0 15) b) 0 0 0 15 (τ 0 0 0 15 + 1)) 0 0 0 14 = τ 0 0 0 14 by repeat rw [up_n (by omega)]]
    exact hfr,
   by
    rw [up_s]
    omega,
   fun j j0 j1 => by
    rw [up_n (by omega)]
    by_cases e : j = τ 0 0 0 15
    · rw [e, up_s]
      exact hb
    · rw [up_n (by omega)]
      exact hso j j0 j1,
   by
    rw [show (up (up τ 9 0 0 (τ 0 0 0 15) b) 0 0 0 15 (τ 0 0 0 15 + 1)) 7 0 0 = τ 7 0 0 from funext fun j => by repeat rw [up_n (by omega)]]
    exact hce,
   by
    rw [show (up (up τ 9 0 0 (τ 0 0 0 15) b) 0 0 0 15 (τ 0 0 0 15 + 1)) 0 0 0 30 = τ 0 0 0 30 by repeat rw [up_n (by omega)]]
    exact hkp,
   by
    rw [show (up (up τ 9 0 0 (τ 0 0 0 15) b) 0 0 0 15 (τ 0 0 0 15 + 1)) 0 0 0 30 = τ 0 0 0 30 by repeat rw [up_n (by omega)], kv_c (τ := τ) (τ' := (up (up τ 9 0 0 (τ 0 0 0 15) b) 0 0 0 15 (τ 0 0 0 15 + 1))) (by repeat rw [up_n (by omega)]) (by repeat rw [up_n (by omega)]) (by repeat rw [up_n (by omega)]) (by intros; repeat rw [up_n (by omega)]), show (up (up τ 9 0 0 (τ 0 0 0 15) b) 0 0 0 15 (τ 0 0 0 15 + 1)) 0 0 0 5 = τ 0 0 0 5 by repeat rw [up_n (by omega)], show (up (up τ 9 0 0 (τ 0 0 0 15) b) 0 0 0 15 (τ 0 0 0 15 + 1)) 0 0 0 32 = τ 0 0 0 32 by repeat rw [up_n (by omega)], show (up (up τ 9 0 0 (τ 0 0 0 15) b) 0 0 0 15 (τ 0 0 0 15 + 1)) 0 0 0 34 = τ 0 0 0 34 by repeat rw [up_n (by omega)], show (up (up τ 9 0 0 (τ 0 0 0 15) b) 0 0 0 15 (τ 0 0 0 15 + 1)) 0 0 0 35 = τ 0 0 0 35 by repeat rw [up_n (by omega)], show (up (up τ 9 0 0 (τ 0 0 0 15) b) 0 0 0 15 (τ 0 0 0 15 + 1)) 0 0 0 36 = τ 0 0 0 36 by repeat rw [up_n (by omega)], show (up (up τ 9 0 0 (τ 0 0 0 15) b) 0 0 0 15 (τ 0 0 0 15 + 1)) 16 0 0 = τ 16 0 0 from funext fun j => by repeat rw [up_n (by omega)], show (up (up τ 9 0 0 (τ 0 0 0 15) b) 0 0 0 15 (τ 0 0 0 15 + 1)) 19 0 0 = τ 19 0 0 from funext fun j => by repeat rw [up_n (by omega)]]
    exact hkk⟩
