/-! the two ways of grazing count alike -/
theorem cntU_add (p : Int → Bool) (m : Nat) : ∀ k : Nat, cntU p (m + k) = cntU p m + cntU (fun j => p ((m : Int) + j)) k
  | 0 => by simp [cntU]
  | k + 1 => by
    have ih := cntU_add p m k
    have e : ((m + k : Nat) : Int) = (m : Int) + (k : Int) := by omega
    rw [show m + (k + 1) = (m + k) + 1 by omega, cntU, cntU, ih, e]
    omega
theorem cntU_cg {p q : Int → Bool} : ∀ n : Nat, (∀ j : Int, 0 ≤ j → j < n → p j = q j) → cntU p n = cntU q n
  | 0, _ => rfl
  | n + 1, h => by rw [cntU, cntU, cntU_cg n (fun j h0 h1 => h j h0 (by omega)), h n (by omega) (by omega)]
theorem cntU_no {p : Int → Bool} : ∀ n : Nat, (∀ j : Int, 0 ≤ j → j < n → p j = false) → cntU p n = 0
  | 0, _ => rfl
  | n + 1, h => by rw [cntU, cntU_no n (fun j h0 h1 => h j h0 (by omega)), h n (by omega) (by omega)]; rfl
theorem gFst_add (p : Int → Bool) (g : Int → Int) (m : Nat) : ∀ k : Nat, gFst p g (m + k) = if gFst p g m ≠ -1 then gFst p g m else gFst (fun j => p ((m : Int) + j)) (fun j => g ((m : Int) + j)) k
  | 0 => by
    by_cases h : gFst p g m = -1
    · simp [gFst, h]
    · simp [h]
  | k + 1 => by
    have ih := gFst_add p g m k
    have e : ((m + k : Nat) : Int) = (m : Int) + (k : Int) := by omega
    rw [show m + (k + 1) = (m + k) + 1 by omega, gFst, ih, e]
    by_cases h : gFst p g m = -1
    · have hn : ¬ gFst p g m ≠ -1 := fun q => q h
      simp only [if_neg hn]
      rfl
    · rw [if_pos h, if_pos h, if_neg (fun q => h q.2)]
theorem gFst_blk {p : Int → Bool} {g : Int → Int} {v : Int} : ∀ k : Nat, (∀ j : Int, 0 ≤ j → j < k → g j = v) → gFst p g k = if cntU p k > 0 then v else -1
  | 0, _ => rfl
  | k + 1, h => by
    have ih := gFst_blk (p := p) k (fun j h0 h1 => h j h0 (by omega))
    have hc := (cntU_bd p k).1
    rw [gFst, cntU, ih, h k (by omega) (by omega)]
    cases hp : p k
    · simp
    · by_cases q : cntU p k > 0
      · rw [if_pos q, if_pos (show cntU p k + (if true = true then (1 : Int) else 0) > 0 by simp; omega)]
        by_cases e : v = -1
        · rw [if_pos ⟨rfl, e⟩]
        · rw [if_neg (fun z => e z.2)]
      · rw [if_neg q, if_pos ⟨rfl, rfl⟩, if_pos (show cntU p k + (if true = true then (1 : Int) else 0) > 0 by simp; omega)]
theorem pw_nat (n : Nat) : ((3 ^ n : Nat) : Int) = 3 ^ n := by simp
theorem pw_pos (n : Nat) : (0 : Int) < 3 ^ n := by
  rw [← pw_nat]
  exact Int.natCast_pos.mpr (Nat.pow_pos (by decide))
theorem blk_div {n t : Nat} {r : Int} (h0 : 0 ≤ r) (h1 : r < 3 ^ n) : (((t * 3 ^ n : Nat) : Int) + r) / 3 ^ n = t ∧ (((t * 3 ^ n : Nat) : Int) + r) % 3 ^ n = r := by
  have hp := pw_pos n
  have e : ((t * 3 ^ n : Nat) : Int) = (3 : Int) ^ n * (t : Int) := by
    rw [Int.natCast_mul, pw_nat, Int.mul_comm]
  rw [e, Int.add_comm]
  exact ⟨by rw [Int.add_mul_ediv_left _ _ (by omega), Int.ediv_eq_zero_of_lt h0 h1]; omega, by rw [Int.add_mul_emod_self_left]; exact Int.emod_eq_of_lt h0 h1⟩
theorem blk_cnt (F : Int → Bool) (f : Int) (n : Nat) (ih : ∀ W : Wd, cntU (fun c => grB F f n c W) (3 ^ n) = gRows F f n W) (W : Wd) (t : Nat) : cntU (fun j => grB F f (n + 1) (((t * 3 ^ n : Nat) : Int) + j) W) (3 ^ n) = gThr F f n W (W 5 f + ((t : Int) - 1)) := by
  have hb : ∀ j : Int, 0 ≤ j → j < ((3 ^ n : Nat) : Int) → grB F f (n + 1) (((t * 3 ^ n : Nat) : Int) + j) W = (decide (0 ≤ W 5 f + ((t : Int) - 1) ∧ W 5 f + ((t : Int) - 1) ≤ 7) && (decide (goD F (wu W 5 f (W 5 f + ((t : Int) - 1))) 6 f = -1) && grB F f n j (goD F (wu W 5 f (W 5 f + ((t : Int) - 1)))))) := fun j j0 j1 => by
    rw [pw_nat] at j1
    obtain ⟨d1, d2⟩ := blk_div (t := t) j0 j1
    rw [grB, d1, d2]
  rw [cntU_cg _ hb]
  unfold gThr
  by_cases hv : 0 ≤ W 5 f + ((t : Int) - 1) ∧ W 5 f + ((t : Int) - 1) ≤ 7
  · rw [if_pos hv]
    by_cases he : goD F (wu W 5 f (W 5 f + ((t : Int) - 1))) 6 f = -1
    · rw [if_neg (by omega), ← ih]
      exact cntU_cg _ (fun j _ _ => by simp [hv, he])
    · rw [if_pos he]
      exact cntU_no _ (fun j _ _ => by simp [he])
  · rw [if_neg hv]
    exact cntU_no _ (fun j _ _ => by
      have : decide (0 ≤ W 5 f + ((t : Int) - 1) ∧ W 5 f + ((t : Int) - 1) ≤ 7) = false := decide_eq_false hv
      rw [this, Bool.false_and])
theorem grz_cnt (F : Int → Bool) (f : Int) : ∀ (n : Nat) (W : Wd), cntU (fun c => grB F f n c W) (3 ^ n) = gRows F f n W
  | 0, W => by simp [cntU, grB, gRows]
  | n + 1, W => by
    have ih := grz_cnt F f n
    have b0 := blk_cnt F f n ih W 0
    have b1 := blk_cnt F f n ih W 1
    have b2 := blk_cnt F f n ih W 2
    rw [show 3 ^ (n + 1) = (1 * 3 ^ n + 3 ^ n) + 3 ^ n by rw [Nat.pow_succ]; omega, cntU_add, cntU_add, gRows_s]
    rw [show 1 * 3 ^ n + 3 ^ n = 2 * 3 ^ n by omega, b2, b1]
    have b0' : cntU (fun c => grB F f (n + 1) c W) (1 * 3 ^ n) = gThr F f n W (W 5 f + (((0 : Nat) : Int) - 1)) := by
      rw [← b0, Nat.one_mul]
      exact cntU_cg _ (fun j _ _ => by simp)
    rw [b0']
    have e0 : W 5 f + (((0 : Nat) : Int) - 1) = W 5 f - 1 := by omega
    have e1 : W 5 f + (((1 : Nat) : Int) - 1) = W 5 f := by omega
    have e2 : W 5 f + (((2 : Nat) : Int) - 1) = W 5 f + 1 := by omega
    rw [e0, e1, e2]
theorem gThr_v {F : Int → Bool} {f : Int} {n : Nat} {W : Wd} {c : Int} (h : gThr F f n W c > 0) : 0 ≤ c := by
  unfold gThr at h
  split at h
  · omega
  · omega
theorem grz_fst (F : Int → Bool) (f : Int) (n : Nat) (W : Wd) : gFst (fun c => grB F f (n + 1) c W) (fun c => W 5 f + c / 3 ^ n - 1) (3 ^ (n + 1)) = fstC F f n W := by
  have ih := grz_cnt F f n
  have b0 := blk_cnt F f n ih W 0
  have b1 := blk_cnt F f n ih W 1
  have b2 := blk_cnt F f n ih W 2
  have e0 : W 5 f + (((0 : Nat) : Int) - 1) = W 5 f - 1 := by omega
  have e1 : W 5 f + (((1 : Nat) : Int) - 1) = W 5 f := by omega
  have e2 : W 5 f + (((2 : Nat) : Int) - 1) = W 5 f + 1 := by omega
  rw [e0] at b0
  rw [e1] at b1
  rw [e2] at b2
  have hg : ∀ (t : Nat) (j : Int), 0 ≤ j → j < ((3 ^ n : Nat) : Int) → W 5 f + (((t * 3 ^ n : Nat) : Int) + j) / 3 ^ n - 1 = W 5 f + t - 1 := fun t j j0 j1 => by
    rw [pw_nat] at j1
    rw [(blk_div (t := t) j0 j1).1]
  rw [show 3 ^ (n + 1) = (1 * 3 ^ n + 3 ^ n) + 3 ^ n by rw [Nat.pow_succ]; omega, gFst_add, gFst_add, show 1 * 3 ^ n + 3 ^ n = 2 * 3 ^ n by omega]
  have c0 : gFst (fun c => grB F f (n + 1) c W) (fun c => W 5 f + c / 3 ^ n - 1) (1 * 3 ^ n) = if gThr F f n W (W 5 f - 1) > 0 then W 5 f - 1 else -1 := by
    rw [gFst_blk (v := W 5 f - 1) _ (fun j j0 j1 => by
      have := hg 0 j j0 (by omega)
      simp at this
      simp
      omega)]
    rw [← b0, Nat.one_mul]
    have : cntU (fun c => grB F f (n + 1) c W) (3 ^ n) = cntU (fun j => grB F f (n + 1) (((0 * 3 ^ n : Nat) : Int) + j) W) (3 ^ n) := cntU_cg _ (fun j _ _ => by simp)
    rw [this]
  have c1 : gFst (fun j => grB F f (n + 1) (((1 * 3 ^ n : Nat) : Int) + j) W) (fun j => W 5 f + (((1 * 3 ^ n : Nat) : Int) + j) / 3 ^ n - 1) (3 ^ n) = if gThr F f n W (W 5 f) > 0 then W 5 f else -1 := by
    rw [gFst_blk (v := W 5 f) _ (fun j j0 j1 => by
      have := hg 1 j j0 j1
      omega), b1]
  have c2 : gFst (fun j => grB F f (n + 1) (((2 * 3 ^ n : Nat) : Int) + j) W) (fun j => W 5 f + (((2 * 3 ^ n : Nat) : Int) + j) / 3 ^ n - 1) (3 ^ n) = if gThr F f n W (W 5 f + 1) > 0 then W 5 f + 1 else -1 := by
    rw [gFst_blk (v := W 5 f + 1) _ (fun j j0 j1 => by
      have := hg 2 j j0 j1
      omega), b2]
  rw [c0, c1, c2]
  have v0 := @gThr_v F f n W (W 5 f - 1)
  have v1 := @gThr_v F f n W (W 5 f)
  unfold fstC
  by_cases q0 : gThr F f n W (W 5 f - 1) > 0
  · have := v0 q0
    rw [if_pos q0, if_pos (show (if W 5 f - 1 ≠ -1 then W 5 f - 1 else _) ≠ -1 by rw [if_pos (by omega)]; omega), if_pos (by omega)]
    rw [if_pos q0]
  · rw [if_neg q0, if_neg q0]
    by_cases q1 : gThr F f n W (W 5 f) > 0
    · have := v1 q1
      rw [if_pos q1, if_pos q1]
      simp
      omega
    · rw [if_neg q1, if_neg q1]
      simp
theorem grz_eq (F : Int → Bool) (W : Wd) (f d w : Int) (h0 : 1 ≤ d) : grzN F W f d w = if w = 0 then fstC F f (d - 1).toNat W else gRows F f d.toNat W := by
  unfold grzN
  have e : d.toNat = (d - 1).toNat + 1 := by omega
  have ep : ((3 : Int) ^ d.toNat).toNat = 3 ^ d.toNat := by rw [← pw_nat]; exact Int.toNat_natCast _
  rw [ep]
  split
  · rw [e]
    exact grz_fst F f _ W
  · exact grz_cnt F f _ W
