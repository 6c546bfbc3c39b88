/-! eight bits -/
def mk8 (q : Int → Bool) : Int := (if q 0 then 1 else 0) + (if q 1 then 2 else 0) + (if q 2 then 4 else 0) + (if q 3 then 8 else 0) + (if q 4 then 16 else 0) + (if q 5 then 32 else 0) + (if q 6 then 64 else 0) + (if q 7 then 128 else 0)
def b8 (b0 b1 b2 b3 b4 b5 b6 b7 : Bool) : Int := (if b0 then 1 else 0) + (if b1 then 2 else 0) + (if b2 then 4 else 0) + (if b3 then 8 else 0) + (if b4 then 16 else 0) + (if b5 then 32 else 0) + (if b6 then 64 else 0) + (if b7 then 128 else 0)
def pk8 (b0 b1 b2 b3 b4 b5 b6 b7 : Bool) (f : Nat) : Bool := match f with | 0 => b0 | 1 => b1 | 2 => b2 | 3 => b3 | 4 => b4 | 5 => b5 | 6 => b6 | _ => b7
theorem eight {f : Int} (h0 : 0 ≤ f) (h1 : f < 8) : f = 0 ∨ f = 1 ∨ f = 2 ∨ f = 3 ∨ f = 4 ∨ f = 5 ∨ f = 6 ∨ f = 7 := by omega
theorem pk8_q (q : Int → Bool) {f : Int} (h0 : 0 ≤ f) (h1 : f < 8) : pk8 (q 0) (q 1) (q 2) (q 3) (q 4) (q 5) (q 6) (q 7) f.toNat = q f := by
  rcases eight h0 h1 with rfl | rfl | rfl | rfl | rfl | rfl | rfl | rfl <;> rfl
theorem bt8_dec : ∀ (b0 b1 b2 b3 b4 b5 b6 b7 : Bool) (f : Fin 8), (iN (b8 b0 b1 b2 b3 b4 b5 b6 b7) >>> (iN (f.val : Nat) &&& 31)) &&& iN 1 = bI (pk8 b0 b1 b2 b3 b4 b5 b6 b7 f.val) := by decide +kernel
theorem bt_8 (q : Int → Bool) {f : Int} (h0 : 0 ≤ f) (h1 : f < 8) : (iN (mk8 q) >>> (iN f &&& 31)) &&& iN 1 = bI (q f) := by
  have h := bt8_dec (q 0) (q 1) (q 2) (q 3) (q 4) (q 5) (q 6) (q 7) ⟨f.toNat, by omega⟩
  simp only [pk8_q q h0 h1, Int.toNat_of_nonneg h0] at h
  exact h
theorem so8_dec : ∀ (b0 b1 b2 b3 b4 b5 b6 b7 : Bool) (f : Fin 8), iN (b8 b0 b1 b2 b3 b4 b5 b6 b7) ||| (iN 1 <<< (iN (f.val : Nat) &&& 31)) = iN (b8 (b0 || decide (f.val = 0)) (b1 || decide (f.val = 1)) (b2 || decide (f.val = 2)) (b3 || decide (f.val = 3)) (b4 || decide (f.val = 4)) (b5 || decide (f.val = 5)) (b6 || decide (f.val = 6)) (b7 || decide (f.val = 7))) := by decide +kernel
theorem so_8 (q : Int → Bool) {f : Int} (h0 : 0 ≤ f) (h1 : f < 8) : iN (mk8 q) ||| (iN 1 <<< (iN f &&& 31)) = iN (mk8 (fun j => q j || decide (j = f))) := by
  rcases eight h0 h1 with rfl | rfl | rfl | rfl | rfl | rfl | rfl | rfl
  · exact so8_dec (q 0) (q 1) (q 2) (q 3) (q 4) (q 5) (q 6) (q 7) 0
  · exact so8_dec (q 0) (q 1) (q 2) (q 3) (q 4) (q 5) (q 6) (q 7) 1
  · exact so8_dec (q 0) (q 1) (q 2) (q 3) (q 4) (q 5) (q 6) (q 7) 2
  · exact so8_dec (q 0) (q 1) (q 2) (q 3) (q 4) (q 5) (q 6) (q 7) 3
  · exact so8_dec (q 0) (q 1) (q 2) (q 3) (q 4) (q 5) (q 6) (q 7) 4
  · exact so8_dec (q 0) (q 1) (q 2) (q 3) (q 4) (q 5) (q 6) (q 7) 5
  · exact so8_dec (q 0) (q 1) (q 2) (q 3) (q 4) (q 5) (q 6) (q 7) 6
  · exact so8_dec (q 0) (q 1) (q 2) (q 3) (q 4) (q 5) (q 6) (q 7) 7
theorem bI_n (b : Bool) : iN (if b then 1 else 0) = bI b := by cases b <;> rfl
theorem eaQ_t {W : Wd} {f : Int} (h : eaQ W f = true) : f < W 0 1 ∧ W 6 f ≠ -1 := by
  simpa [eaQ] using h
theorem eaQ_f {W : Wd} {f : Int} (h : eaQ W f = false) (h1 : f < W 0 1) : W 6 f = -1 := by
  simp [eaQ] at h
  exact h h1
theorem goA_n (F : Int → Bool) (W : Wd) (n : Nat) : goA F W (n + 1) = if prey F (goA F W n) n (W 0 2) = -1 then goA F W n else wu (goA F W n) 6 (prey F (goA F W n) n (W 0 2)) n := rfl
theorem eatN_5 {W : Wd} (h0 : 0 ≤ W 0 1) (h1 : W 0 1 ≤ 5) : cntU (eaQ W) 5 = eatN W := by
  unfold eatN
  have hs : ∀ k : Int, (if eaQ W k = true then (1 : Int) else 0) = if k < W 0 1 ∧ W 6 k ≠ -1 then 1 else 0 := fun k => by simp [eaQ]
  rcases (show W 0 1 = 0 ∨ W 0 1 = 1 ∨ W 0 1 = 2 ∨ W 0 1 = 3 ∨ W 0 1 = 4 ∨ W 0 1 = 5 by omega) with e | e | e | e | e | e <;> simp [cntU, hs, e]
set_option maxHeartbeats 4000000 in
set_option maxRecDepth 10000 in
theorem c_X2_become (l : Launch) (G : GC) (σ : St) (w : Nat) (hw3 : w < 3) (f n c : Int) (f0 : 0 ≤ f) (f1 : f < 5) : Ct l (YC G) yX2_become (.code yX2_become cX2_become 3 none) 0 [.ref (aC G 12 w f), .int (iN n), .int (iN c)] σ (fun v σ' => v = none ∧ σ' = up (up σ 12 w f 0 n) 12 w f 1 c) := by
  refine Ct_of (own := RX2) [some (.ref (aC G 12 w f)), some (.int (iN n)), some (.int (iN c))] rfl rfl (Nat.le_of_ble_eq_true rfl) rfl ?_
  intro E hE hM hl hR
  refine x_aload_n (pc' := 1) hE dX2_become_0 rfl rfl ?_
  refine x_iload_n (pc' := 2) hE dX2_become_1 rfl rfl ?_
  refine p_X2_0 (pc' := 5) (by omega) (by omega) (by omega) hE hM tF_X2_7 dX2_become_2 rfl ?_
  refine x_aload_n (pc' := 6) hE dX2_become_5 rfl rfl ?_
  refine x_iload_n (pc' := 7) hE dX2_become_6 rfl rfl ?_
  refine p_X2_1 (pc' := 10) (by omega) (by omega) (by omega) hE hM tF_X2_13 dX2_become_7 rfl ?_
  refine x_vret hE dX2_become_10 ?_
  exact ⟨rfl, rfl⟩
set_option maxHeartbeats 4000000 in
set_option maxRecDepth 10000 in
theorem c_X4_become (l : Launch) (G : GC) (σ : St) (w : Nat) (hw3 : w < 3) (p k c g : Int) (f0 : 0 ≤ p) (f1 : p < 4) : Ct l (YC G) yX4_become (.code yX4_become cX4_become 4 none) 0 [.ref (aC G 11 w p), .ref (eC G k), .int (iN c), .int (iN g)] σ (fun v σ' => v = none ∧ σ' = up (up (up σ 11 w p 0 k) 11 w p 1 c) 11 w p 2 g) := by
  refine Ct_of (own := RX4) [some (.ref (aC G 11 w p)), some (.ref (eC G k)), some (.int (iN c)), some (.int (iN g))] rfl rfl (Nat.le_of_ble_eq_true rfl) rfl ?_
  intro E hE hM hl hR
  refine x_aload_n (pc' := 1) hE dX4_become_0 rfl rfl ?_
  refine x_aload_n (pc' := 2) hE dX4_become_1 rfl rfl ?_
  refine p_X4_0 (pc' := 5) (by omega) (by omega) (by omega) hE hM tF_X4_13 dX4_become_2 rfl ?_
  refine x_aload_n (pc' := 6) hE dX4_become_5 rfl rfl ?_
  refine x_iload_n (pc' := 7) hE dX4_become_6 rfl rfl ?_
  refine p_X4_1 (pc' := 10) (by omega) (by omega) (by omega) hE hM tF_X4_18 dX4_become_7 rfl ?_
  refine x_aload_n (pc' := 11) hE dX4_become_10 rfl rfl ?_
  refine x_iload_n (pc' := 12) hE dX4_become_11 rfl rfl ?_
  refine p_X4_2 (pc' := 15) (by omega) (by omega) (by omega) hE hM tF_X4_22 dX4_become_12 rfl ?_
  refine x_vret hE dX4_become_15 ?_
  exact ⟨rfl, rfl⟩
set_option maxHeartbeats 4000000 in
set_option maxRecDepth 10000 in
theorem c_X2_copyFrom (l : Launch) (G : GC) (σ : St) (w w' : Nat) (hw3 : w < 3) (hw4 : w' < 3) (hne : w' ≠ w) (f : Int) (f0 : 0 ≤ f) (f1 : f < 5) : Ct l (YC G) yX2_copyFrom (.code yX2_copyFrom cX2_copyFrom 2 none) 0 [.ref (aC G 12 w f), .ref (aC G 12 w' f)] σ (fun v σ' => v = none ∧ σ' = up (up (up σ 12 w f 0 (σ 12 w' f 0)) 12 w f 1 (σ 12 w' f 1)) 12 w f 2 (σ 12 w' f 2)) := by
  refine Ct_of (own := RX2) [some (.ref (aC G 12 w f)), some (.ref (aC G 12 w' f))] rfl rfl (Nat.le_of_ble_eq_true rfl) rfl ?_
  intro E hE hM hl hR
  refine x_aload_n (pc' := 1) hE dX2_copyFrom_0 rfl rfl ?_
  refine x_aload_n (pc' := 2) hE dX2_copyFrom_1 rfl rfl ?_
  refine g_X2_0 (pc' := 5) (by omega) (by omega) (by omega) hE hM tF_X2_7 dX2_copyFrom_2 rfl ?_
  refine p_X2_0 (pc' := 8) (by omega) (by omega) (by omega) hE hM tF_X2_7 dX2_copyFrom_5 rfl ?_
  refine x_aload_n (pc' := 9) hE dX2_copyFrom_8 rfl rfl ?_
  refine x_aload_n (pc' := 10) hE dX2_copyFrom_9 rfl rfl ?_
  refine g_X2_1 (pc' := 13) (by omega) (by omega) (by omega) hE hM tF_X2_13 dX2_copyFrom_10 rfl ?_
  rw [up_n (by omega)]
  refine p_X2_1 (pc' := 16) (by omega) (by omega) (by omega) hE hM tF_X2_13 dX2_copyFrom_13 rfl ?_
  refine x_aload_n (pc' := 17) hE dX2_copyFrom_16 rfl rfl ?_
  refine x_aload_n (pc' := 18) hE dX2_copyFrom_17 rfl rfl ?_
  refine g_X2_2 (pc' := 21) (by omega) (by omega) (by omega) hE hM tF_X2_16 dX2_copyFrom_18 rfl ?_
  rw [up_n (by omega), up_n (by omega)]
  refine p_X2_2 (pc' := 24) (by omega) (by omega) (by omega) hE hM tF_X2_16 dX2_copyFrom_21 rfl ?_
  refine x_vret hE dX2_copyFrom_24 ?_
  exact ⟨rfl, rfl⟩
set_option maxHeartbeats 4000000 in
set_option maxRecDepth 10000 in
theorem c_X6_copyFrom (l : Launch) (G : GC) (σ : St) (w w' : Nat) (hw3 : w < 3) (hw4 : w' < 3) (hne : w' ≠ w) : Ct l (YC G) yX6_copyFrom (.code yX6_copyFrom cX6_copyFrom 2 none) 0 [.ref (aC G 10 w 0), .ref (aC G 10 w' 0)] σ (fun v σ' => v = none ∧ σ' = up (up (up (up σ 10 w 0 0 (σ 10 w' 0 0)) 10 w 0 1 (σ 10 w' 0 1)) 10 w 0 2 (σ 10 w' 0 2)) 10 w 0 3 (σ 10 w' 0 3)) := by
  refine Ct_of (own := RX6) [some (.ref (aC G 10 w 0)), some (.ref (aC G 10 w' 0))] rfl rfl (Nat.le_of_ble_eq_true rfl) rfl ?_
  intro E hE hM hl hR
  refine x_aload_n (pc' := 1) hE dX6_copyFrom_0 rfl rfl ?_
  refine x_aload_n (pc' := 2) hE dX6_copyFrom_1 rfl rfl ?_
  refine g_X6_0 (pc' := 5) (by omega) hE hM tF_X6_9 dX6_copyFrom_2 rfl ?_
  refine p_X6_0 (pc' := 8) (by omega) hE hM tF_X6_9 dX6_copyFrom_5 rfl ?_
  refine x_aload_n (pc' := 9) hE dX6_copyFrom_8 rfl rfl ?_
  refine x_aload_n (pc' := 10) hE dX6_copyFrom_9 rfl rfl ?_
  refine g_X6_1 (pc' := 13) (by omega) hE hM tF_X6_15 dX6_copyFrom_10 rfl ?_
  rw [up_n (by omega)]
  refine p_X6_1 (pc' := 16) (by omega) hE hM tF_X6_15 dX6_copyFrom_13 rfl ?_
  refine x_aload_n (pc' := 17) hE dX6_copyFrom_16 rfl rfl ?_
  refine x_aload_n (pc' := 18) hE dX6_copyFrom_17 rfl rfl ?_
  refine g_X6_2 (pc' := 21) (by omega) hE hM tF_X6_18 dX6_copyFrom_18 rfl ?_
  rw [up_n (by omega), up_n (by omega)]
  refine p_X6_2 (pc' := 24) (by omega) hE hM tF_X6_18 dX6_copyFrom_21 rfl ?_
  refine x_aload_n (pc' := 25) hE dX6_copyFrom_24 rfl rfl ?_
  refine x_aload_n (pc' := 26) hE dX6_copyFrom_25 rfl rfl ?_
  refine g_X6_3 (pc' := 29) (by omega) hE hM tF_X6_21 dX6_copyFrom_26 rfl ?_
  rw [up_n (by omega), up_n (by omega), up_n (by omega)]
  refine p_X6_3 (pc' := 32) (by omega) hE hM tF_X6_21 dX6_copyFrom_29 rfl ?_
  refine x_vret hE dX6_copyFrom_32 ?_
  exact ⟨rfl, rfl⟩
set_option maxHeartbeats 4000000 in
set_option maxRecDepth 10000 in
theorem c_X6_hasBegun (l : Launch) (G : GC) (σ : St) (w : Nat) (hw3 : w < 3) (hp : inR (σ 10 w 0 0)) : Ct l (YC G) yX6_hasBegun (.code yX6_hasBegun cX6_hasBegun 1 (some .boolean)) 0 [.ref (aC G 10 w 0)] σ (fun v σ' => v = some (.int (bI (decide (σ 10 w 0 0 ≠ -1)))) ∧ σ' = σ) := by
  refine Ct_of (own := RX6) [some (.ref (aC G 10 w 0))] rfl rfl (Nat.le_of_ble_eq_true rfl) rfl ?_
  intro E hE hM hl hR
  obtain ⟨p1, p2⟩ := hp
  refine x_aload_n (pc' := 1) hE dX6_hasBegun_0 rfl rfl ?_
  refine g_X6_0 (pc' := 4) (by omega) hE hM tF_X6_9 dX6_hasBegun_1 rfl ?_
  refine x_iconst (pc' := 5) hE dX6_hasBegun_4 rfl ?_
  refine x_icmpeq (tgt := 12) (pc' := 8) hE dX6_hasBegun_5 (by decide) rfl ⟨by omega, by omega⟩ ⟨by omega, by omega⟩ (fun h1 => ?_) (fun h1 => ?_)
  · refine x_iconst (pc' := 13) hE dX6_hasBegun_12 rfl ?_
    refine x_zret hE dX6_hasBegun_13 (by rfl) ?_
    exact ⟨rb0 (by simp; omega), rfl⟩
  · refine x_iconst (pc' := 9) hE dX6_hasBegun_8 rfl ?_
    refine x_goto (tgt := 13) hE dX6_hasBegun_9 (by decide) ?_
    refine x_zret hE dX6_hasBegun_13 (by rfl) ?_
    exact ⟨rb1 (by simp; omega), rfl⟩
set_option maxHeartbeats 4000000 in
set_option maxRecDepth 10000 in
theorem c_X6_beginWith (l : Launch) (G : GC) (σ : St) (w : Nat) (hw3 : w < 3) (p d : Int) : Ct l (YC G) yX6_beginWith (.code yX6_beginWith cX6_beginWith 3 none) 0 [.ref (aC G 10 w 0), .int (iN p), .int (iN d)] σ (fun v σ' => v = none ∧ σ' = up (up (up (up σ 10 w 0 0 p) 10 w 0 1 d) 10 w 0 2 0) 10 w 0 3 0) := by
  refine Ct_of (own := RX6) [some (.ref (aC G 10 w 0)), some (.int (iN p)), some (.int (iN d))] rfl rfl (Nat.le_of_ble_eq_true rfl) rfl ?_
  intro E hE hM hl hR
  refine x_aload_n (pc' := 1) hE dX6_beginWith_0 rfl rfl ?_
  refine x_iload_n (pc' := 2) hE dX6_beginWith_1 rfl rfl ?_
  refine p_X6_0 (pc' := 5) (by omega) hE hM tF_X6_9 dX6_beginWith_2 rfl ?_
  refine x_aload_n (pc' := 6) hE dX6_beginWith_5 rfl rfl ?_
  refine x_iload_n (pc' := 7) hE dX6_beginWith_6 rfl rfl ?_
  refine p_X6_1 (pc' := 10) (by omega) hE hM tF_X6_15 dX6_beginWith_7 rfl ?_
  refine x_aload_n (pc' := 11) hE dX6_beginWith_10 rfl rfl ?_
  refine x_iconst (pc' := 12) hE dX6_beginWith_11 rfl ?_
  refine p_X6_2 (pc' := 15) (by omega) hE hM tF_X6_18 dX6_beginWith_12 rfl ?_
  refine x_aload_n (pc' := 16) hE dX6_beginWith_15 rfl rfl ?_
  refine x_iconst (pc' := 17) hE dX6_beginWith_16 rfl ?_
  refine p_X6_3 (pc' := 20) (by omega) hE hM tF_X6_21 dX6_beginWith_17 rfl ?_
  refine x_vret hE dX6_beginWith_20 ?_
  exact ⟨rfl, rfl⟩
set_option maxHeartbeats 4000000 in
set_option maxRecDepth 10000 in
theorem c_X6_put (l : Launch) (G : GC) (σ : St) (w : Nat) (hw3 : w < 3) (q : Int → Bool) (hq : σ 10 w 0 3 = mk8 q) (s0 : 0 ≤ σ 10 w 0 2) (s1 : σ 10 w 0 2 < 8) (b : Bool) : Ct l (YC G) yX6_put (.code yX6_put cX6_put 2 none) 0 [.ref (aC G 10 w 0), .int (bI b)] σ (fun v σ' => v = none ∧ σ' = up (if b then up σ 10 w 0 3 (mk8 (fun j => q j || decide (j = σ 10 w 0 2))) else σ) 10 w 0 2 (σ 10 w 0 2 + 1)) := by
  refine Ct_of (own := RX6) [some (.ref (aC G 10 w 0)), some (.int (bI b))] rfl rfl (Nat.le_of_ble_eq_true rfl) rfl ?_
  intro E hE hM hl hR
  refine x_iload_n (pc' := 1) hE dX6_put_0 rfl rfl ?_
  refine x_ifeqB (tgt := 19) (pc' := 4) hE dX6_put_1 (by decide) rfl (fun h1 => ?_) (fun h1 => ?_)
  · try simp only [decide_eq_true_eq, decide_eq_false_iff_not] at h1
    refine x_aload_n (pc' := 20) hE dX6_put_19 rfl rfl ?_
    refine x_dup (pc' := 21) hE dX6_put_20 rfl rfl ?_
    refine g_X6_2 (pc' := 24) (by omega) hE hM tF_X6_18 dX6_put_21 rfl ?_
    try rw [up_n (by omega)]
    refine x_iconst (pc' := 25) hE dX6_put_24 rfl ?_
    refine x_iadd (pc' := 26) hE dX6_put_25 rfl ?_
    refine p_X6_2 (pc' := 29) (by omega) hE hM tF_X6_18 dX6_put_26 rfl ?_
    refine x_vret hE dX6_put_29 ?_
    refine ⟨rfl, ?_⟩
    simp [h1]
  · try simp only [decide_eq_true_eq, decide_eq_false_iff_not] at h1
    refine x_aload_n (pc' := 5) hE dX6_put_4 rfl rfl ?_
    refine x_dup (pc' := 6) hE dX6_put_5 rfl rfl ?_
    refine g_X6_3 (pc' := 9) (by omega) hE hM tF_X6_21 dX6_put_6 rfl ?_
    refine x_iconst (pc' := 10) hE dX6_put_9 rfl ?_
    refine x_aload_n (pc' := 11) hE dX6_put_10 rfl rfl ?_
    refine g_X6_2 (pc' := 14) (by omega) hE hM tF_X6_18 dX6_put_11 rfl ?_
    refine x_ishl (pc' := 15) hE dX6_put_14 rfl ?_
    refine x_ior (pc' := 16) hE dX6_put_15 rfl ?_
    refine x_st (st' := [.int (iN (mk8 (fun j => q j || decide (j = σ 10 w 0 2)))), .ref (aC G 10 w 0)]) (by rw [hq, so_8 q s0 s1]) ?_
    refine p_X6_3 (pc' := 19) (by omega) hE hM tF_X6_21 dX6_put_16 rfl ?_
    refine x_aload_n (pc' := 20) hE dX6_put_19 rfl rfl ?_
    refine x_dup (pc' := 21) hE dX6_put_20 rfl rfl ?_
    refine g_X6_2 (pc' := 24) (by omega) hE hM tF_X6_18 dX6_put_21 rfl ?_
    try rw [up_n (by omega)]
    refine x_iconst (pc' := 25) hE dX6_put_24 rfl ?_
    refine x_iadd (pc' := 26) hE dX6_put_25 rfl ?_
    refine p_X6_2 (pc' := 29) (by omega) hE hM tF_X6_18 dX6_put_26 rfl ?_
    refine x_vret hE dX6_put_29 ?_
    refine ⟨rfl, ?_⟩
    simp [h1]
set_option maxHeartbeats 4000000 in
set_option maxRecDepth 10000 in
theorem c_X6_huntedAt (l : Launch) (G : GC) (σ : St) (w : Nat) (hw3 : w < 3) (q : Int → Bool) (hq : σ 10 w 0 3 = mk8 q) (j : Int) (h0 : 0 ≤ j) (h1 : j < 8) : Ct l (YC G) yX6_huntedAt (.code yX6_huntedAt cX6_huntedAt 2 (some .boolean)) 0 [.ref (aC G 10 w 0), .int (iN j)] σ (fun v σ' => v = some (.int (bI (q j))) ∧ σ' = σ) := by
  refine Ct_of (own := RX6) [some (.ref (aC G 10 w 0)), some (.int (iN j))] rfl rfl (Nat.le_of_ble_eq_true rfl) rfl ?_
  intro E hE hM hl hR
  refine x_aload_n (pc' := 1) hE dX6_huntedAt_0 rfl rfl ?_
  refine g_X6_3 (pc' := 4) (by omega) hE hM tF_X6_21 dX6_huntedAt_1 rfl ?_
  refine x_iload_n (pc' := 5) hE dX6_huntedAt_4 rfl rfl ?_
  refine x_ishr (pc' := 6) hE dX6_huntedAt_5 rfl ?_
  refine x_iconst (pc' := 7) hE dX6_huntedAt_6 rfl ?_
  refine x_iand (pc' := 8) hE dX6_huntedAt_7 rfl ?_
  refine x_st (st' := [.int (bI (q j))]) (by rw [hq, bt_8 q h0 h1]) ?_
  refine x_iconst (pc' := 9) hE dX6_huntedAt_8 rfl ?_
  refine x_icmpneB1 (tgt := 16) (pc' := 12) hE dX6_huntedAt_9 (by decide) rfl (fun h1 => ?_) (fun h1 => ?_)
  · try simp only [decide_eq_true_eq, decide_eq_false_iff_not] at h1
    refine x_iconst (pc' := 17) hE dX6_huntedAt_16 rfl ?_
    refine x_zret hE dX6_huntedAt_17 (by rfl) ?_
    exact ⟨rb0 h1, rfl⟩
  · try simp only [decide_eq_true_eq, decide_eq_false_iff_not] at h1
    refine x_iconst (pc' := 13) hE dX6_huntedAt_12 rfl ?_
    refine x_goto (tgt := 17) hE dX6_huntedAt_13 (by decide) ?_
    refine x_zret hE dX6_huntedAt_17 (by rfl) ?_
    exact ⟨rb1 h1, rfl⟩
set_option maxHeartbeats 4000000 in
set_option maxRecDepth 10000 in
theorem c_X7_goBackTo (l : Launch) (G : GC) (σ : St) (w : Nat) (hw3 : w < 3) (d e : Int) : Ct l (YC G) yX7_goBackTo (.code yX7_goBackTo cX7_goBackTo 3 none) 0 [.ref (aC G 6 w 0), .int (iN d), .int (iN e)] σ (fun v σ' => v = none ∧ σ' = up (up σ 6 w 0 6 d) 6 w 0 7 e) := by
  refine Ct_of (own := RX7) [some (.ref (aC G 6 w 0)), some (.int (iN d)), some (.int (iN e))] rfl rfl (Nat.le_of_ble_eq_true rfl) rfl ?_
  intro E hE hM hl hR
  refine x_aload_n (pc' := 1) hE dX7_goBackTo_0 rfl rfl ?_
  refine x_iload_n (pc' := 2) hE dX7_goBackTo_1 rfl rfl ?_
  refine p_X7_6 (pc' := 5) (by omega) hE hM tF_X7_70 dX7_goBackTo_2 rfl ?_
  refine x_aload_n (pc' := 6) hE dX7_goBackTo_5 rfl rfl ?_
  refine x_iload_n (pc' := 7) hE dX7_goBackTo_6 rfl rfl ?_
  refine p_X7_7 (pc' := 10) (by omega) hE hM tF_X7_73 dX7_goBackTo_7 rfl ?_
  refine x_vret hE dX7_goBackTo_10 ?_
  exact ⟨rfl, rfl⟩
set_option maxHeartbeats 4000000 in
set_option maxRecDepth 10000 in
theorem c_X7_hasPack (l : Launch) (G : GC) (σ : St) (w : Nat) (hw3 : w < 3) (W : Wd) (D : Int) (hRW : RW σ w W) (hWo : WOk D W) (hD : D ≤ 1000000) (p : Int) (hp : inR p) : Ct l (YC G) yX7_hasPack (.code yX7_hasPack cX7_hasPack 2 (some .boolean)) 0 [.ref (aC G 6 w 0), .int (iN p)] σ (fun v σ' => v = some (.int (bI (decide (0 ≤ p ∧ p < W 0 0)))) ∧ σ' = σ) := by
  refine Ct_of (own := RX7) [some (.ref (aC G 6 w 0)), some (.int (iN p))] rfl rfl (Nat.le_of_ble_eq_true rfl) rfl ?_
  intro E hE hM hl hR
  obtain ⟨r1, r2, r3, r4, r5, r6, r7⟩ := id hRW
  obtain ⟨o1, o2, o3, o4, o5, o6⟩ := id hWo
  obtain ⟨p1, p2⟩ := hp
  refine x_iload_n (pc' := 1) hE dX7_hasPack_0 rfl rfl ?_
  refine x_iflt (tgt := 16) (pc' := 4) hE dX7_hasPack_1 (by decide) rfl ⟨by omega, by omega⟩ (fun h1 => ?_) (fun h1 => ?_)
  · refine x_iconst (pc' := 17) hE dX7_hasPack_16 rfl ?_
    refine x_zret hE dX7_hasPack_17 (by rfl) ?_
    exact ⟨rb0 (by simp; omega), rfl⟩
  · refine x_iload_n (pc' := 5) hE dX7_hasPack_4 rfl rfl ?_
    refine x_aload_n (pc' := 6) hE dX7_hasPack_5 rfl rfl ?_
    refine g_X7_4 (pc' := 9) (by omega) hE hM tF_X7_36 dX7_hasPack_6 rfl ?_
    refine x_icmpge (tgt := 16) (pc' := 12) hE dX7_hasPack_9 (by decide) rfl ⟨by omega, by omega⟩ ⟨by omega, by omega⟩ (fun h2 => ?_) (fun h2 => ?_)
    · refine x_iconst (pc' := 17) hE dX7_hasPack_16 rfl ?_
      refine x_zret hE dX7_hasPack_17 (by rfl) ?_
      exact ⟨rb0 (by simp; omega), rfl⟩
    · refine x_iconst (pc' := 13) hE dX7_hasPack_12 rfl ?_
      refine x_goto (tgt := 17) hE dX7_hasPack_13 (by decide) ?_
      refine x_zret hE dX7_hasPack_17 (by rfl) ?_
      exact ⟨rb1 (by simp; omega), rfl⟩
set_option maxHeartbeats 4000000 in
set_option maxRecDepth 10000 in
theorem c_X7_hasFlock (l : Launch) (G : GC) (σ : St) (w : Nat) (hw3 : w < 3) (W : Wd) (D : Int) (hRW : RW σ w W) (hWo : WOk D W) (hD : D ≤ 1000000) (p : Int) (hp : inR p) : Ct l (YC G) yX7_hasFlock (.code yX7_hasFlock cX7_hasFlock 2 (some .boolean)) 0 [.ref (aC G 6 w 0), .int (iN p)] σ (fun v σ' => v = some (.int (bI (decide (0 ≤ p ∧ p < W 0 1)))) ∧ σ' = σ) := by
  refine Ct_of (own := RX7) [some (.ref (aC G 6 w 0)), some (.int (iN p))] rfl rfl (Nat.le_of_ble_eq_true rfl) rfl ?_
  intro E hE hM hl hR
  obtain ⟨r1, r2, r3, r4, r5, r6, r7⟩ := id hRW
  obtain ⟨o1, o2, o3, o4, o5, o6⟩ := id hWo
  obtain ⟨p1, p2⟩ := hp
  refine x_iload_n (pc' := 1) hE dX7_hasFlock_0 rfl rfl ?_
  refine x_iflt (tgt := 16) (pc' := 4) hE dX7_hasFlock_1 (by decide) rfl ⟨by omega, by omega⟩ (fun h1 => ?_) (fun h1 => ?_)
  · refine x_iconst (pc' := 17) hE dX7_hasFlock_16 rfl ?_
    refine x_zret hE dX7_hasFlock_17 (by rfl) ?_
    exact ⟨rb0 (by simp; omega), rfl⟩
  · refine x_iload_n (pc' := 5) hE dX7_hasFlock_4 rfl rfl ?_
    refine x_aload_n (pc' := 6) hE dX7_hasFlock_5 rfl rfl ?_
    refine g_X7_5 (pc' := 9) (by omega) hE hM tF_X7_54 dX7_hasFlock_6 rfl ?_
    refine x_icmpge (tgt := 16) (pc' := 12) hE dX7_hasFlock_9 (by decide) rfl ⟨by omega, by omega⟩ ⟨by omega, by omega⟩ (fun h2 => ?_) (fun h2 => ?_)
    · refine x_iconst (pc' := 17) hE dX7_hasFlock_16 rfl ?_
      refine x_zret hE dX7_hasFlock_17 (by rfl) ?_
      exact ⟨rb0 (by simp; omega), rfl⟩
    · refine x_iconst (pc' := 13) hE dX7_hasFlock_12 rfl ?_
      refine x_goto (tgt := 17) hE dX7_hasFlock_13 (by decide) ?_
      refine x_zret hE dX7_hasFlock_17 (by rfl) ?_
      exact ⟨rb1 (by simp; omega), rfl⟩
set_option maxHeartbeats 4000000 in
set_option maxRecDepth 10000 in
theorem c_X7_isEaten (l : Launch) (G : GC) (σ : St) (w : Nat) (hw3 : w < 3) (W : Wd) (D : Int) (hRW : RW σ w W) (hWo : WOk D W) (hD : D ≤ 1000000) (f : Int) (f0 : 0 ≤ f) (f1 : f < 5) : Ct l (YC G) yX7_isEaten (.code yX7_isEaten cX7_isEaten 2 (some .boolean)) 0 [.ref (aC G 6 w 0), .int (iN f)] σ (fun v σ' => v = some (.int (bI (eaQ W f))) ∧ σ' = σ) := by
  refine Ct_of (own := RX7) [some (.ref (aC G 6 w 0)), some (.int (iN f))] rfl rfl (Nat.le_of_ble_eq_true rfl) rfl ?_
  intro E hE hM hl hR
  obtain ⟨r1, r2, r3, r4, r5, r6, r7⟩ := id hRW
  obtain ⟨o1, o2, o3, o4, o5, o6⟩ := id hWo
  refine x_aload_n (pc' := 1) hE dX7_isEaten_0 rfl rfl ?_
  refine g_X7_7 (pc' := 4) (by omega) hE hM tF_X7_73 dX7_isEaten_1 rfl ?_
  refine x_iload_n (pc' := 5) hE dX7_isEaten_4 rfl rfl ?_
  refine x_ishr (pc' := 6) hE dX7_isEaten_5 rfl ?_
  refine x_iconst (pc' := 7) hE dX7_isEaten_6 rfl ?_
  refine x_iand (pc' := 8) hE dX7_isEaten_7 rfl ?_
  refine x_st (st' := [.int (bI (eaQ W f))]) (by rw [r4, bt_5 (eaQ W) f0 f1, bI_n]) ?_
  refine x_iconst (pc' := 9) hE dX7_isEaten_8 rfl ?_
  refine x_icmpneB1 (tgt := 16) (pc' := 12) hE dX7_isEaten_9 (by decide) rfl (fun h1 => ?_) (fun h1 => ?_)
  · try simp only [decide_eq_true_eq, decide_eq_false_iff_not] at h1
    refine x_iconst (pc' := 17) hE dX7_isEaten_16 rfl ?_
    refine x_zret hE dX7_isEaten_17 (by rfl) ?_
    exact ⟨rb0 h1, rfl⟩
  · try simp only [decide_eq_true_eq, decide_eq_false_iff_not] at h1
    refine x_iconst (pc' := 13) hE dX7_isEaten_12 rfl ?_
    refine x_goto (tgt := 17) hE dX7_isEaten_13 (by decide) ?_
    refine x_zret hE dX7_isEaten_17 (by rfl) ?_
    exact ⟨rb1 h1, rfl⟩
set_option maxHeartbeats 4000000 in
set_option maxRecDepth 10000 in
theorem c_X7_isGrazing (l : Launch) (G : GC) (σ : St) (w : Nat) (hw3 : w < 3) (W : Wd) (D : Int) (hRW : RW σ w W) (hWo : WOk D W) (hD : D ≤ 1000000) (f : Int) (hf : inR f) : Ct l (YC G) yX7_isGrazing (.code yX7_isGrazing cX7_isGrazing 2 (some .boolean)) 1 [.ref (aC G 6 w 0), .int (iN f)] σ (fun v σ' => v = some (.int (bI (decide (0 ≤ f ∧ f < W 0 1 ∧ W 6 f = -1)))) ∧ σ' = σ) := by
  refine Ct_of (own := RX7) [some (.ref (aC G 6 w 0)), some (.int (iN f))] rfl rfl (Nat.le_of_ble_eq_true rfl) rfl ?_
  intro E hE hM hl hR
  obtain ⟨r1, r2, r3, r4, r5, r6, r7⟩ := id hRW
  obtain ⟨o1, o2, o3, o4, o5, o6⟩ := id hWo
  obtain ⟨p1, p2⟩ := hf
  refine x_aload_n (pc' := 1) hE dX7_isGrazing_0 rfl rfl ?_
  refine x_iload_n (pc' := 2) hE dX7_isGrazing_1 rfl rfl ?_
  refine x_cV1 (pc' := 5) hE hM (okC G) hl hR (c_X7_hasFlock l G _ _ (by omega) _ _ (by assumption) (by assumption) (by omega) _ ⟨by omega, by omega⟩) kX7_hasFlock tM_X7_80 (rcv_X7 (by omega) hM) (by decide) dX7_isGrazing_2 rfl rfl (Nat.le_of_ble_eq_true rfl) (fun σ1 e1 => ?_)
  replace e1 := e1.symm
  subst e1
  refine x_ifeqB (tgt := 20) (pc' := 8) hE dX7_isGrazing_5 (by decide) rfl (fun h2 => ?_) (fun h2 => ?_)
  · try simp only [decide_eq_true_eq, decide_eq_false_iff_not] at h2
    refine x_iconst (pc' := 21) hE dX7_isGrazing_20 rfl ?_
    refine x_zret hE dX7_isGrazing_21 (by rfl) ?_
    exact ⟨rb0 (by simp; omega), rfl⟩
  · try simp only [decide_eq_true_eq, decide_eq_false_iff_not] at h2
    refine x_aload_n (pc' := 9) hE dX7_isGrazing_8 rfl rfl ?_
    refine x_iload_n (pc' := 10) hE dX7_isGrazing_9 rfl rfl ?_
    refine x_cV1 (pc' := 13) hE hM (okC G) hl hR (c_X7_isEaten l G _ _ (by omega) _ _ (by assumption) (by assumption) (by omega) _ (by omega) (by omega)) kX7_isEaten tM_X7_84 (rcv_X7 (by omega) hM) (by decide) dX7_isGrazing_10 rfl rfl (Nat.le_of_ble_eq_true rfl) (fun σ3 e3 => ?_)
    replace e3 := e3.symm
    subst e3
    refine x_ifneB (tgt := 20) (pc' := 16) hE dX7_isGrazing_13 (by decide) rfl (fun h4 => ?_) (fun h4 => ?_)
    · try simp only [decide_eq_true_eq, decide_eq_false_iff_not] at h4
      refine x_iconst (pc' := 21) hE dX7_isGrazing_20 rfl ?_
      refine x_zret hE dX7_isGrazing_21 (by rfl) ?_
      have q := eaQ_t h4
      exact ⟨rb0 (by simp; omega), rfl⟩
    · try simp only [decide_eq_true_eq, decide_eq_false_iff_not] at h4
      refine x_iconst (pc' := 17) hE dX7_isGrazing_16 rfl ?_
      refine x_goto (tgt := 21) hE dX7_isGrazing_17 (by decide) ?_
      refine x_zret hE dX7_isGrazing_21 (by rfl) ?_
      have q := eaQ_f h4 (by omega)
      exact ⟨rb1 (by simp; omega), rfl⟩
set_option maxHeartbeats 4000000 in
set_option maxRecDepth 10000 in
theorem c_X7_eatenInAll (l : Launch) (G : GC) (σ : St) (w : Nat) (hw3 : w < 3) (W : Wd) (D : Int) (hRW : RW σ w W) (hWo : WOk D W) (hD : D ≤ 1000000) : Ct l (YC G) yX7_eatenInAll (.code yX7_eatenInAll cX7_eatenInAll 1 (some .int)) 1 [.ref (aC G 6 w 0)] σ (fun v σ' => v = some (.int (iN (eatN W))) ∧ σ' = σ) := by
  refine Ct_of (own := RX7) [some (.ref (aC G 6 w 0))] rfl rfl (Nat.le_of_ble_eq_true rfl) rfl ?_
  intro E hE hM hl hR
  obtain ⟨r1, r2, r3, r4, r5, r6, r7⟩ := id hRW
  obtain ⟨o1, o2, o3, o4, o5, o6⟩ := id hWo
  refine x_aload_n (pc' := 1) hE dX7_eatenInAll_0 rfl rfl ?_
  refine g_X7_7 (pc' := 4) (by omega) hE hM tF_X7_73 dX7_eatenInAll_1 rfl ?_
  rw [r4]
  refine x_cS1 (pc' := 7) hE hM (okC G) hl hR (c_J6_bitCount_0f7a4 l G _ (eaQ W)) kJ6_bitCount_0f7a4 tM_X7_87 (by decide) dX7_eatenInAll_4 rfl rfl (Nat.le_of_ble_eq_true rfl) (fun σ1 e1 => ?_)
  replace e1 := e1.symm
  subst e1
  refine x_iret hE dX7_eatenInAll_7 ?_
  exact ⟨ri (eatN_5 (by omega) (by omega)), rfl⟩
set_option maxHeartbeats 4000000 in
set_option maxRecDepth 10000 in
theorem c_X7_eatenBy (l : Launch) (G : GC) (σ : St) (w : Nat) (hw3 : w < 3) (W : Wd) (D : Int) (hRW : RW σ w W) (hWo : WOk D W) (hD : D ≤ 1000000) (p : Int) (p0 : 0 ≤ p) (p1 : p < 4) : Ct l (YC G) yX7_eatenBy (.code yX7_eatenBy cX7_eatenBy 4 (some .int)) 1 [.ref (aC G 6 w 0), .int (iN p)] σ (fun v σ' => v = some (.int (iN (eatP W p))) ∧ σ' = σ) := by
  refine Ct_of (own := RX7) [some (.ref (aC G 6 w 0)), some (.int (iN p)), none, none] rfl rfl (Nat.le_of_ble_eq_true rfl) rfl ?_
  intro E hE hM hl hR
  obtain ⟨r1, r2, r3, r4, r5, r6, r7⟩ := id hRW
  obtain ⟨o1, o2, o3, o4, o5, o6⟩ := id hWo
  have loop : ∀ (n : Nat) (k : Int), 0 ≤ k → k ≤ W 0 1 → W 0 1 - k = n → VV E 4 (AS (YC G)) (Qm (YC G) (fun v σ' => v = some (.int (iN (eatP W p))) ∧ σ' = σ) E) (Rh (YC G) (σ)) 4 [some (.ref (aC G 6 w 0)), some (.int (iN p)), some (.int (iN (cntU (fun f => decide (W 6 f = p)) k.toNat))), some (.int (iN (k)))] [] := by
    intro n
    induction n using Nat.strongRecOn with
    | _ n ih =>
    intro k g0 g1 g2
    refine x_iload_n (pc' := 5) hE dX7_eatenBy_4 rfl rfl ?_
    refine x_aload_n (pc' := 6) hE dX7_eatenBy_5 rfl rfl ?_
    refine g_X7_5 (pc' := 9) (by omega) hE hM tF_X7_54 dX7_eatenBy_6 rfl ?_
    refine x_icmpge (tgt := 42) (pc' := 12) hE dX7_eatenBy_9 (by decide) rfl ⟨by omega, by omega⟩ ⟨by omega, by omega⟩ (fun h1 => ?_) (fun h1 => ?_)
    · refine x_iload_n (pc' := 43) hE dX7_eatenBy_42 rfl rfl ?_
      refine x_iret hE dX7_eatenBy_43 ?_
      have e : k = W 0 1 := by omega
      subst e
      exact ⟨rfl, rfl⟩
    · have q1 := r6 k (by omega) (by omega)
      have q2 := o5 k (by omega) (by omega)
      refine x_aload_n (pc' := 13) hE dX7_eatenBy_12 rfl rfl ?_
      refine x_iload_n (pc' := 14) hE dX7_eatenBy_13 rfl rfl ?_
      refine x_cV1 (pc' := 17) hE hM (okC G) hl hR (c_X7_isEaten l G _ _ (by omega) _ _ (by assumption) (by assumption) (by omega) _ (by omega) (by omega)) kX7_isEaten tM_X7_84 (rcv_X7 (by omega) hM) (by decide) dX7_eatenBy_14 rfl rfl (Nat.le_of_ble_eq_true rfl) (fun σ2 e2 => ?_)
      replace e2 := e2.symm
      subst e2
      refine x_ifeqB (tgt := 36) (pc' := 20) hE dX7_eatenBy_17 (by decide) rfl (fun h3 => ?_) (fun h3 => ?_)
      · try simp only [decide_eq_true_eq, decide_eq_false_iff_not] at h3
        refine x_iinc (pc' := 39) hE dX7_eatenBy_36 rfl rfl (by decide) rfl rfl ?_
        dsimp only [List.set]
        refine x_goto (tgt := 4) hE dX7_eatenBy_39 (by decide) ?_
        refine x_lve (lv' := [some (.ref (aC G 6 w 0)), some (.int (iN p)), some (.int (iN (cntU (fun f => decide (W 6 f = p)) (k + 1).toNat))), some (.int (iN (k + 1)))]) ?_ (ih (n - 1) (by omega) (k + 1) (by omega) (by omega) (by omega))
        rw [cntU_s _ g0]
        have hc : (if decide (W 6 k = p) = true then (1 : Int) else 0) = 0 := by
          have q4 := eaQ_f h3 (by omega)
          simp; omega
        rw [show (if (fun f => decide (W 6 f = p)) k = true then (1 : Int) else 0) = _ from hc]
        try rw [Int.add_zero]
      · try simp only [decide_eq_true_eq, decide_eq_false_iff_not] at h3
        have q4 := eaQ_t h3
        have q3 := q1.2.2 q4.2
        refine x_aload_n (pc' := 21) hE dX7_eatenBy_20 rfl rfl ?_
        refine g_X7_1 (pc' := 24) (by omega) hE hM tF_X7_19 dX7_eatenBy_21 rfl ?_
        refine x_iload_n (pc' := 25) hE dX7_eatenBy_24 rfl rfl ?_
        refine aC_8 (pc' := 26) (by omega) hE hM (by omega) (by omega) dX7_eatenBy_25 rfl ?_
        refine gN_X2_2 (pc' := 29) (by omega) (by omega) (by omega) hE hM (fun _ h => nF_X7_93 h) dX7_eatenBy_26 rfl ?_
        refine x_iload_n (pc' := 30) hE dX7_eatenBy_29 rfl rfl ?_
        refine x_icmpne (tgt := 36) (pc' := 33) hE dX7_eatenBy_30 (by decide) rfl ⟨by omega, by omega⟩ ⟨by omega, by omega⟩ (fun h4 => ?_) (fun h4 => ?_)
        · refine x_iinc (pc' := 39) hE dX7_eatenBy_36 rfl rfl (by decide) rfl rfl ?_
          dsimp only [List.set]
          refine x_goto (tgt := 4) hE dX7_eatenBy_39 (by decide) ?_
          refine x_lve (lv' := [some (.ref (aC G 6 w 0)), some (.int (iN p)), some (.int (iN (cntU (fun f => decide (W 6 f = p)) (k + 1).toNat))), some (.int (iN (k + 1)))]) ?_ (ih (n - 1) (by omega) (k + 1) (by omega) (by omega) (by omega))
          rw [cntU_s _ g0]
          have hc : (if decide (W 6 k = p) = true then (1 : Int) else 0) = 0 := by
            simp; omega
          rw [show (if (fun f => decide (W 6 f = p)) k = true then (1 : Int) else 0) = _ from hc]
          try rw [Int.add_zero]
        · refine x_iinc (pc' := 36) hE dX7_eatenBy_33 rfl rfl (by decide) rfl rfl ?_
          dsimp only [List.set]
          refine x_iinc (pc' := 39) hE dX7_eatenBy_36 rfl rfl (by decide) rfl rfl ?_
          dsimp only [List.set]
          refine x_goto (tgt := 4) hE dX7_eatenBy_39 (by decide) ?_
          refine x_lve (lv' := [some (.ref (aC G 6 w 0)), some (.int (iN p)), some (.int (iN (cntU (fun f => decide (W 6 f = p)) (k + 1).toNat))), some (.int (iN (k + 1)))]) ?_ (ih (n - 1) (by omega) (k + 1) (by omega) (by omega) (by omega))
          rw [cntU_s _ g0]
          have hc : (if decide (W 6 k = p) = true then (1 : Int) else 0) = 1 := by
            simp; omega
          rw [show (if (fun f => decide (W 6 f = p)) k = true then (1 : Int) else 0) = _ from hc]
          try rw [Int.add_zero]
  refine x_iconst (pc' := 1) hE dX7_eatenBy_0 rfl ?_
  refine x_istore_n (pc' := 2) hE dX7_eatenBy_1 rfl (by decide) rfl rfl ?_
  dsimp only [List.set]
  refine x_iconst (pc' := 3) hE dX7_eatenBy_2 rfl ?_
  refine x_istore_n (pc' := 4) hE dX7_eatenBy_3 rfl (by decide) rfl rfl ?_
  dsimp only [List.set]
  exact loop (W 0 1).toNat 0 (by omega) (by omega) (by omega)
set_option maxHeartbeats 4000000 in
set_option maxRecDepth 10000 in
theorem c_X7_forgedCells (l : Launch) (G : GC) (σ : St) (w : Nat) (hw3 : w < 3) (W : Wd) (D : Int) (hRW : RW σ w W) (hWo : WOk D W) (hD : D ≤ 1000000) : Ct l (YC G) yX7_forgedCells (.code yX7_forgedCells cX7_forgedCells 3 (some .int)) 0 [.ref (aC G 6 w 0)] σ (fun v σ' => v = some (.int (iN (fgN W))) ∧ σ' = σ) := by
  refine Ct_of (own := RX7) [some (.ref (aC G 6 w 0)), none, none] rfl rfl (Nat.le_of_ble_eq_true rfl) rfl ?_
  intro E hE hM hl hR
  obtain ⟨r1, r2, r3, r4, r5, r6, r7⟩ := id hRW
  obtain ⟨o1, o2, o3, o4, o5, o6⟩ := id hWo
  have loop : ∀ (n : Nat) (k : Int), 0 ≤ k → k ≤ 8 → 8 - k = n → VV E 3 (AS (YC G)) (Qm (YC G) (fun v σ' => v = some (.int (iN (fgN W))) ∧ σ' = σ) E) (Rh (YC G) (σ)) 4 [some (.ref (aC G 6 w 0)), some (.int (iN (cntU (fun c => decide (W 7 c ≠ 0)) k.toNat))), some (.int (iN (k)))] [] := by
    intro n
    induction n using Nat.strongRecOn with
    | _ n ih =>
    intro k g0 g1 g2
    refine x_iload_n (pc' := 5) hE dX7_forgedCells_4 rfl rfl ?_
    refine x_bipush (pc' := 7) hE dX7_forgedCells_5 rfl (by decide +kernel) ?_
    refine x_icmpge (tgt := 28) (pc' := 10) hE dX7_forgedCells_7 (by decide) rfl ⟨by omega, by omega⟩ ⟨by omega, by omega⟩ (fun h1 => ?_) (fun h1 => ?_)
    · refine x_iload_n (pc' := 29) hE dX7_forgedCells_28 rfl rfl ?_
      refine x_iret hE dX7_forgedCells_29 ?_
      have e : k = 8 := by omega
      subst e
      exact ⟨rfl, rfl⟩
    · have q1 := r7 k (by omega) (by omega)
      have q2 := o6 k (by omega) (by omega)
      refine x_aload_n (pc' := 11) hE dX7_forgedCells_10 rfl rfl ?_
      refine g_X7_2 (pc' := 14) (by omega) hE hM tF_X7_23 dX7_forgedCells_11 rfl ?_
      refine x_iload_n (pc' := 15) hE dX7_forgedCells_14 rfl rfl ?_
      refine aC_9 (pc' := 16) (by omega) hE hM (by omega) (by omega) dX7_forgedCells_15 rfl ?_
      refine x_ifeq (tgt := 22) (pc' := 19) hE dX7_forgedCells_16 (by decide) rfl ⟨by omega, by omega⟩ (fun h2 => ?_) (fun h2 => ?_)
      · refine x_iinc (pc' := 25) hE dX7_forgedCells_22 rfl rfl (by decide) rfl rfl ?_
        dsimp only [List.set]
        refine x_goto (tgt := 4) hE dX7_forgedCells_25 (by decide) ?_
        refine x_lve (lv' := [some (.ref (aC G 6 w 0)), some (.int (iN (cntU (fun c => decide (W 7 c ≠ 0)) (k + 1).toNat))), some (.int (iN (k + 1)))]) ?_ (ih (n - 1) (by omega) (k + 1) (by omega) (by omega) (by omega))
        rw [cntU_s _ g0]
        rw [show (if (fun c => decide (W 7 c ≠ 0)) k = true then (1 : Int) else 0) = 0 by simp; omega]
        try rw [Int.add_zero]
      · refine x_iinc (pc' := 22) hE dX7_forgedCells_19 rfl rfl (by decide) rfl rfl ?_
        dsimp only [List.set]
        refine x_iinc (pc' := 25) hE dX7_forgedCells_22 rfl rfl (by decide) rfl rfl ?_
        dsimp only [List.set]
        refine x_goto (tgt := 4) hE dX7_forgedCells_25 (by decide) ?_
        refine x_lve (lv' := [some (.ref (aC G 6 w 0)), some (.int (iN (cntU (fun c => decide (W 7 c ≠ 0)) (k + 1).toNat))), some (.int (iN (k + 1)))]) ?_ (ih (n - 1) (by omega) (k + 1) (by omega) (by omega) (by omega))
        rw [cntU_s _ g0]
        rw [show (if (fun c => decide (W 7 c ≠ 0)) k = true then (1 : Int) else 0) = 1 by simp; omega]
        try rw [Int.add_zero]
  refine x_iconst (pc' := 1) hE dX7_forgedCells_0 rfl ?_
  refine x_istore_n (pc' := 2) hE dX7_forgedCells_1 rfl (by decide) rfl rfl ?_
  dsimp only [List.set]
  refine x_iconst (pc' := 3) hE dX7_forgedCells_2 rfl ?_
  refine x_istore_n (pc' := 4) hE dX7_forgedCells_3 rfl (by decide) rfl rfl ?_
  dsimp only [List.set]
  exact loop 8 0 (by omega) (by omega) (by omega)
