/-! the text of feasts -/
def okL (pg : Int → Int) (k : Int) : Bool := decide ((k % 4 = 0 ∧ (pg k = 102 ∨ pg k = 109)) ∨ (k % 4 = 1 ∧ 48 ≤ pg k ∧ (pg (k - 1) = 102 ∧ pg k ≤ 50 ∨ pg (k - 1) ≠ 102 ∧ pg k ≤ 54)) ∨ (k % 4 = 2 ∧ (pg (k - 2) = 102 ∧ 48 ≤ pg k ∧ pg k ≤ 57 ∨ pg (k - 2) ≠ 102 ∧ 49 ≤ pg k ∧ pg k ≤ 52)) ∨ (k % 4 = 3 ∧ pg k = 44 ∧ k < 23))
def fltK (pg : Int → Int) : Nat → Int → Int
  | 0, k => k
  | n + 1, k => if okL pg k then fltK pg n (k + 1) else k
def flt (pg : Int → Int) (n : Int) : Int := fltK pg n.toNat 0
def whl (pg : Int → Int) (n : Int) : Bool := decide (n % 4 = 3) && decide (flt pg n = n)
def cdF (pg : Int → Int) (j : Int) : Int := (if pg (4 * j) = 102 then 0 else 100) + 10 * (pg (4 * j + 1) - 48) + (pg (4 * j + 2) - 48)
theorem fltK_bd (pg : Int → Int) : ∀ (n : Nat) (k : Int), k ≤ fltK pg n k ∧ fltK pg n k ≤ k + n
  | 0, k => by simp [fltK]
  | n + 1, k => by
    have ih := fltK_bd pg n (k + 1)
    rw [fltK]
    split <;> omega
theorem flt_bd (pg : Int → Int) {n : Int} (h : 0 ≤ n) : 0 ≤ flt pg n ∧ flt pg n ≤ n := by
  have := fltK_bd pg n.toNat 0
  unfold flt
  omega
def stF (pg : Int → Int) (k : Int) : Int := if k % 4 = 3 then 5 else if k % 4 = 0 then 0 else if k % 4 = 1 then (if pg (k - 1) = 102 then 1 else 3) else (if pg (k - 2) = 102 then 2 else 4)
theorem stF_bd (pg : Int → Int) (k : Int) : 0 ≤ stF pg k ∧ stF pg k ≤ 5 ∧ (stF pg k = 5 ↔ k % 4 = 3) := by
  unfold stF
  repeat' split
  all_goals omega
def nxX (s c nf : Int) : Int := if s = 0 then (if c = 102 then 1 else if c = 109 then 3 else -1) else if s = 1 then (if 48 ≤ c ∧ c ≤ 50 then 2 else -1) else if s = 3 then (if 48 ≤ c ∧ c ≤ 54 then 4 else -1) else if s = 2 then (if 48 ≤ c ∧ c ≤ 57 then 5 else -1) else if s = 4 then (if 49 ≤ c ∧ c ≤ 52 then 5 else -1) else (if c = 44 ∧ nf < 6 then 0 else -1)
theorem nxX_bd (s c nf : Int) : -1 ≤ nxX s c nf ∧ nxX s c nf ≤ 5 := by
  unfold nxX
  repeat' split
  all_goals omega
def laT (τ : St) (s g : Int) : St := up (up τ 11 0 0 (τ 0 0 0 22) (τ 11 0 0 (τ 0 0 0 22) + g)) 0 0 0 22 (τ 0 0 0 22 + (if (s = 2 ∧ 0 ≤ g ∧ g ≤ 9) ∨ (s ≠ 2 ∧ 1 ≤ g ∧ g ≤ 4) then 1 else 0))
def nxT (τ : St) (s c : Int) : St := if s = 0 ∨ s = 5 then τ else if s = 1 then up τ 11 0 0 (τ 0 0 0 22) (10 * (c - 48)) else if s = 3 then up τ 11 0 0 (τ 0 0 0 22) (100 + 10 * (c - 48)) else laT τ s (c - 48)
theorem Sd_upx (τ : St) {k : Nat} {j v : Int} (h : (k = 0 ∧ (j = 20 ∨ j = 21 ∨ j = 22 ∨ j = 24 ∨ j = 29 ∨ j = 42)) ∨ (11 ≤ k ∧ k ≤ 15)) : Sd τ (up τ k 0 0 j v) := fun a b hr => by
  unfold relD at hr
  exact up_n (by omega)
theorem Sd_nxT (τ : St) (s c : Int) : Sd τ (nxT τ s c) := by
  unfold nxT
  split
  · exact Sd.refl τ
  · split
    · exact Sd_upx τ (by omega)
    · split
      · exact Sd_upx τ (by omega)
      · exact (Sd_upx τ (by omega)).trans (Sd_upx _ (by omega))
/-- what the reference has noted before the letter at k -/
def PI (pg : Int → Int) (k : Int) (S : St) : Prop := S 0 0 0 22 = (k + 1) / 4 ∧ (∀ j, 0 ≤ j → j < (k + 1) / 4 → S 11 0 0 j = cdF pg j) ∧ (k % 4 = 2 → S 11 0 0 (k / 4) = (if pg (k - 2) = 102 then 0 else 100) + 10 * (pg (k - 1) - 48))
theorem PI_n {pg : Int → Int} {k : Int} {S : St} (h : PI pg k S) (k0 : 0 ≤ k) : okL pg k = true → PI pg (k + 1) (nxT S (stF pg k) (pg k)) ∧ nxX (stF pg k) (pg k) (S 0 0 0 22) = stF pg (k + 1) := by
  obtain ⟨h1, h2, h3⟩ := h
  intro hk
  simp only [okL, decide_eq_true_eq] at hk
  rcases (show k % 4 = 0 ∨ k % 4 = 1 ∨ k % 4 = 2 ∨ k % 4 = 3 by omega) with e | e | e | e
  · have e1 : (k + 1) % 4 = 1 := by omega
    have es : stF pg k = 0 := by unfold stF; rw [if_neg (by omega), if_pos e]
    have en : stF pg (k + 1) = if pg k = 102 then 1 else 3 := by unfold stF; rw [if_neg (by omega), if_neg (by omega), if_pos e1, show k + 1 - 1 = k by omega]
    rw [es, en]
    refine ⟨?_, ?_⟩
    · have et : nxT S 0 (pg k) = S := by simp [nxT]
      rw [et]
      refine ⟨by rw [h1]; omega, fun j j0 j1 => h2 j j0 (by omega), fun hc => by omega⟩
    · unfold nxX
      repeat' split
      all_goals omega
  · have e1 : (k + 1) % 4 = 2 := by omega
    have es : stF pg k = if pg (k - 1) = 102 then 1 else 3 := by unfold stF; rw [if_neg (by omega), if_neg (by omega), if_pos e]
    have en : stF pg (k + 1) = if pg (k - 1) = 102 then 2 else 4 := by unfold stF; rw [if_neg (by omega), if_neg (by omega), if_neg (by omega), show k + 1 - 2 = k - 1 by omega]
    rw [es, en]
    have em : S 0 0 0 22 = (k + 1) / 4 := h1
    by_cases q : pg (k - 1) = 102
    · rw [if_pos q, if_pos q]
      refine ⟨?_, ?_⟩
      · have et : nxT S 1 (pg k) = up S 11 0 0 (S 0 0 0 22) (10 * (pg k - 48)) := by simp [nxT]
        rw [et]
        refine ⟨by rw [up_n (by omega), h1]; omega, fun j j0 j1 => ?_, fun _ => ?_⟩
        · rw [up_n (by omega)]; exact h2 j j0 (by omega)
        · rw [h1, show (k + 1) / 4 = k / 4 by omega, up_s]; simp [show k + 1 - 2 = k - 1 by omega, show k + 1 - 1 = k by omega, q]
      · unfold nxX
        repeat' split
        all_goals omega
    · rw [if_neg q, if_neg q]
      refine ⟨?_, ?_⟩
      · have et : nxT S 3 (pg k) = up S 11 0 0 (S 0 0 0 22) (100 + 10 * (pg k - 48)) := by simp [nxT]
        rw [et]
        refine ⟨by rw [up_n (by omega), h1]; omega, fun j j0 j1 => ?_, fun _ => ?_⟩
        · rw [up_n (by omega)]; exact h2 j j0 (by omega)
        · rw [h1, show (k + 1) / 4 = k / 4 by omega, up_s]; simp [show k + 1 - 2 = k - 1 by omega, show k + 1 - 1 = k by omega, q]
      · unfold nxX
        repeat' split
        all_goals omega
  · have e1 : (k + 1) % 4 = 3 := by omega
    have es : stF pg k = if pg (k - 2) = 102 then 2 else 4 := by unfold stF; rw [if_neg (by omega), if_neg (by omega), if_neg (by omega)]
    have en : stF pg (k + 1) = 5 := by unfold stF; rw [if_pos e1]
    have h3' := h3 e
    have hz : nxT S (stF pg k) (pg k) = laT S (stF pg k) (pg k - 48) := by
      rw [es]
      by_cases q : pg (k - 2) = 102 <;> simp [nxT, q]
    have hg : ((stF pg k = 2 ∧ 0 ≤ pg k - 48 ∧ pg k - 48 ≤ 9) ∨ (stF pg k ≠ 2 ∧ 1 ≤ pg k - 48 ∧ pg k - 48 ≤ 4)) := by
      rw [es]
      by_cases q : pg (k - 2) = 102
      · left
        rw [if_pos q]; omega
      · right
        rw [if_neg q]; omega
    refine ⟨?_, ?_⟩
    · rw [hz]
      unfold laT
      rw [if_pos hg]
      refine ⟨by rw [up_s, h1]; omega, fun j j0 j1 => ?_, fun hc => by omega⟩
      rw [up_n (by omega)]
      by_cases ej : j = S 0 0 0 22
      · subst ej
        rw [up_s, h1, show (k + 1) / 4 = k / 4 by omega, h3']
        unfold cdF
        rw [show 4 * (k / 4) = k - 2 by omega, show k - 2 + 1 = k - 1 by omega, show k - 2 + 2 = k by omega]
      · rw [up_n (by omega)]
        exact h2 j j0 (by omega)
    · rw [es, en]
      unfold nxX
      by_cases q : pg (k - 2) = 102
      · rw [if_pos q]
        simp
        omega
      · rw [if_neg q]
        simp
        omega
  · have e1 : (k + 1) % 4 = 0 := by omega
    have es : stF pg k = 5 := by unfold stF; rw [if_pos e]
    have en : stF pg (k + 1) = 0 := by unfold stF; rw [if_neg (by omega), if_pos e1]
    rw [es, en]
    refine ⟨?_, ?_⟩
    · have et : nxT S 5 (pg k) = S := by simp [nxT]
      rw [et]
      refine ⟨by rw [h1]; omega, fun j j0 j1 => h2 j j0 (by omega), fun hc => by omega⟩
    · unfold nxX
      simp
      omega
theorem PI_x {pg : Int → Int} {k : Int} (k0 : 0 ≤ k) (h : okL pg k = false) : nxX (stF pg k) (pg k) ((k + 1) / 4) = -1 := by
  simp only [okL, decide_eq_false_iff_not] at h
  rcases (show k % 4 = 0 ∨ k % 4 = 1 ∨ k % 4 = 2 ∨ k % 4 = 3 by omega) with e | e | e | e
  · have es : stF pg k = 0 := by unfold stF; rw [if_neg (by omega), if_pos e]
    rw [es]
    unfold nxX
    repeat' split
    all_goals omega
  · have es : stF pg k = if pg (k - 1) = 102 then 1 else 3 := by unfold stF; rw [if_neg (by omega), if_neg (by omega), if_pos e]
    rw [es]
    by_cases q : pg (k - 1) = 102
    · rw [if_pos q]
      unfold nxX
      repeat' split
      all_goals omega
    · rw [if_neg q]
      unfold nxX
      repeat' split
      all_goals omega
  · have es : stF pg k = if pg (k - 2) = 102 then 2 else 4 := by unfold stF; rw [if_neg (by omega), if_neg (by omega), if_neg (by omega)]
    rw [es]
    by_cases q : pg (k - 2) = 102
    · rw [if_pos q]
      unfold nxX
      repeat' split
      all_goals omega
    · rw [if_neg q]
      unfold nxX
      repeat' split
      all_goals omega
  · have es : stF pg k = 5 := by unfold stF; rw [if_pos e]
    rw [es]
    unfold nxX
    repeat' split
    all_goals omega
theorem nxX_st {pg : Int → Int} {k nf : Int} (h : nxX (stF pg k) (pg k) nf ≠ -1) (hn : nf = (k + 1) / 4) (k0 : 0 ≤ k) : okL pg k = true := by
  by_cases q : okL pg k = true
  · exact q
  · exact absurd (by rw [hn]; exact PI_x k0 (by simpa using q)) h
set_option maxHeartbeats 4000000 in
set_option maxRecDepth 10000 in
theorem c_X9_lastState (l : Launch) (G : GM) (τ : St) (s g : Int) (hn : 0 ≤ τ 0 0 0 22 ∧ τ 0 0 0 22 ≤ 5) (hs : 0 ≤ s ∧ s ≤ 5) (hg : -48 ≤ g ∧ g ≤ 100) : Ct l (YM G) yX9_lastState (.code yX9_lastState cX9_lastState 4 (some .int)) 1 [.ref (aM G 0), .int (iN s), .int (iN g)] τ (fun v τ' => v = some (.int (iN (if (s = 2 ∧ 0 ≤ g ∧ g ≤ 9) ∨ (s ≠ 2 ∧ 1 ≤ g ∧ g ≤ 4) then 5 else -1))) ∧ τ' = laT τ s g) := by
  refine Ct_of (own := RX9) [some (.ref (aM G 0)), some (.int (iN s)), some (.int (iN g)), none] rfl rfl (Nat.le_of_ble_eq_true rfl) rfl ?_
  intro E hE hM hl hR
  refine x_iload_n (pc' := 1) hE dX9_lastState_0 rfl rfl ?_
  refine x_iconst (pc' := 2) hE dX9_lastState_1 rfl ?_
  refine x_icmpne (tgt := 15) (pc' := 5) hE dX9_lastState_2 (by decide) rfl ⟨by omega, by omega⟩ ⟨by omega, by omega⟩ (fun h1 => ?_) (fun h1 => ?_)
  · refine x_iload_n (pc' := 16) hE dX9_lastState_15 rfl rfl ?_
    refine x_iconst (pc' := 17) hE dX9_lastState_16 rfl ?_
    refine x_iconst (pc' := 18) hE dX9_lastState_17 rfl ?_
    refine x_cS1 (pc' := 21) hE hM (okM G) hl hR (c_X9_within l G _ _ _ _ ⟨by omega, by omega⟩ ⟨by omega, by omega⟩ ⟨by omega, by omega⟩) kX9_within tM_X9_75 (by decide) dX9_lastState_18 rfl rfl (Nat.le_of_ble_eq_true rfl) (fun σ2 e2 => ?_)
    replace e2 := e2.symm
    subst e2
    refine x_istore_n (pc' := 22) hE dX9_lastState_21 rfl (by decide) rfl rfl ?_
    dsimp only [List.set]
    refine x_aload_n (pc' := 23) hE dX9_lastState_22 rfl rfl ?_
    refine gM_23 (pc' := 26) hE hM tF_X9_45 dX9_lastState_23 rfl ?_
    refine x_aload_n (pc' := 27) hE dX9_lastState_26 rfl rfl ?_
    refine gM_22 (pc' := 30) hE hM tF_X9_82 dX9_lastState_27 rfl ?_
    refine x_dup2 (pc' := 31) hE dX9_lastState_30 rfl rfl rfl ?_
    refine aM_11 (pc' := 32) hE hM (by omega) (by omega) dX9_lastState_31 rfl ?_
    refine x_iload_n (pc' := 33) hE dX9_lastState_32 rfl rfl ?_
    refine x_iadd (pc' := 34) hE dX9_lastState_33 rfl ?_
    refine sM_11 (pc' := 35) hE hM (by omega) (by omega) dX9_lastState_34 rfl ?_
    refine x_aload_n (pc' := 36) hE dX9_lastState_35 rfl rfl ?_
    refine x_dup (pc' := 37) hE dX9_lastState_36 rfl rfl ?_
    refine gM_22 (pc' := 40) hE hM tF_X9_82 dX9_lastState_37 rfl ?_
    refine x_iload_n (pc' := 41) hE dX9_lastState_40 rfl rfl ?_
    refine x_ifeqB (tgt := 48) (pc' := 44) hE dX9_lastState_41 (by decide) rfl (fun h3 => ?_) (fun h3 => ?_)
    · try simp only [decide_eq_true_eq, decide_eq_false_iff_not] at h3
      refine x_iconst (pc' := 49) hE dX9_lastState_48 rfl ?_
      refine x_iadd (pc' := 50) hE dX9_lastState_49 rfl ?_
      refine pM_22 (pc' := 53) hE hM tF_X9_82 dX9_lastState_50 rfl ?_
      refine x_iload_n (pc' := 54) hE dX9_lastState_53 rfl rfl ?_
      refine x_ifeqB (tgt := 61) (pc' := 57) hE dX9_lastState_54 (by decide) rfl (fun h4 => ?_) (fun h4 => ?_)
      · try simp only [decide_eq_true_eq, decide_eq_false_iff_not] at h4
        refine x_iconst (pc' := 62) hE dX9_lastState_61 rfl ?_
        refine x_iret hE dX9_lastState_62 ?_
        first
        | (exfalso; omega)
        | (refine ⟨ri ?_, ?_⟩
           · first | rw [if_pos (by omega)] | rw [if_neg (by omega)]
           · rw [up_n (by omega)]
             unfold laT
             first | rw [if_pos (by omega)] | rw [if_neg (by omega)])
      · try simp only [decide_eq_true_eq, decide_eq_false_iff_not] at h4
        refine x_iconst (pc' := 58) hE dX9_lastState_57 rfl ?_
        refine x_goto (tgt := 62) hE dX9_lastState_58 (by decide) ?_
        refine x_iret hE dX9_lastState_62 ?_
        first
        | (exfalso; omega)
        | (refine ⟨ri ?_, ?_⟩
           · first | rw [if_pos (by omega)] | rw [if_neg (by omega)]
           · rw [up_n (by omega)]
             unfold laT
             first | rw [if_pos (by omega)] | rw [if_neg (by omega)])
    · try simp only [decide_eq_true_eq, decide_eq_false_iff_not] at h3
      refine x_iconst (pc' := 45) hE dX9_lastState_44 rfl ?_
      refine x_goto (tgt := 49) hE dX9_lastState_45 (by decide) ?_
      refine x_iadd (pc' := 50) hE dX9_lastState_49 rfl ?_
      refine pM_22 (pc' := 53) hE hM tF_X9_82 dX9_lastState_50 rfl ?_
      refine x_iload_n (pc' := 54) hE dX9_lastState_53 rfl rfl ?_
      refine x_ifeqB (tgt := 61) (pc' := 57) hE dX9_lastState_54 (by decide) rfl (fun h5 => ?_) (fun h5 => ?_)
      · try simp only [decide_eq_true_eq, decide_eq_false_iff_not] at h5
        refine x_iconst (pc' := 62) hE dX9_lastState_61 rfl ?_
        refine x_iret hE dX9_lastState_62 ?_
        first
        | (exfalso; omega)
        | (refine ⟨ri ?_, ?_⟩
           · first | rw [if_pos (by omega)] | rw [if_neg (by omega)]
           · rw [up_n (by omega)]
             unfold laT
             first | rw [if_pos (by omega)] | rw [if_neg (by omega)])
      · try simp only [decide_eq_true_eq, decide_eq_false_iff_not] at h5
        refine x_iconst (pc' := 58) hE dX9_lastState_57 rfl ?_
        refine x_goto (tgt := 62) hE dX9_lastState_58 (by decide) ?_
        refine x_iret hE dX9_lastState_62 ?_
        first
        | (exfalso; omega)
        | (refine ⟨ri ?_, ?_⟩
           · first | rw [if_pos (by omega)] | rw [if_neg (by omega)]
           · rw [up_n (by omega)]
             unfold laT
             first | rw [if_pos (by omega)] | rw [if_neg (by omega)])
  · refine x_iload_n (pc' := 6) hE dX9_lastState_5 rfl rfl ?_
    refine x_iconst (pc' := 7) hE dX9_lastState_6 rfl ?_
    refine x_bipush (pc' := 9) hE dX9_lastState_7 rfl (by decide +kernel) ?_
    refine x_cS1 (pc' := 12) hE hM (okM G) hl hR (c_X9_within l G _ _ _ _ ⟨by omega, by omega⟩ ⟨by omega, by omega⟩ ⟨by omega, by omega⟩) kX9_within tM_X9_75 (by decide) dX9_lastState_9 rfl rfl (Nat.le_of_ble_eq_true rfl) (fun σ6 e6 => ?_)
    replace e6 := e6.symm
    subst e6
    refine x_goto (tgt := 21) hE dX9_lastState_12 (by decide) ?_
    refine x_istore_n (pc' := 22) hE dX9_lastState_21 rfl (by decide) rfl rfl ?_
    dsimp only [List.set]
    refine x_aload_n (pc' := 23) hE dX9_lastState_22 rfl rfl ?_
    refine gM_23 (pc' := 26) hE hM tF_X9_45 dX9_lastState_23 rfl ?_
    refine x_aload_n (pc' := 27) hE dX9_lastState_26 rfl rfl ?_
    refine gM_22 (pc' := 30) hE hM tF_X9_82 dX9_lastState_27 rfl ?_
    refine x_dup2 (pc' := 31) hE dX9_lastState_30 rfl rfl rfl ?_
    refine aM_11 (pc' := 32) hE hM (by omega) (by omega) dX9_lastState_31 rfl ?_
    refine x_iload_n (pc' := 33) hE dX9_lastState_32 rfl rfl ?_
    refine x_iadd (pc' := 34) hE dX9_lastState_33 rfl ?_
    refine sM_11 (pc' := 35) hE hM (by omega) (by omega) dX9_lastState_34 rfl ?_
    refine x_aload_n (pc' := 36) hE dX9_lastState_35 rfl rfl ?_
    refine x_dup (pc' := 37) hE dX9_lastState_36 rfl rfl ?_
    refine gM_22 (pc' := 40) hE hM tF_X9_82 dX9_lastState_37 rfl ?_
    refine x_iload_n (pc' := 41) hE dX9_lastState_40 rfl rfl ?_
    refine x_ifeqB (tgt := 48) (pc' := 44) hE dX9_lastState_41 (by decide) rfl (fun h7 => ?_) (fun h7 => ?_)
    · try simp only [decide_eq_true_eq, decide_eq_false_iff_not] at h7
      refine x_iconst (pc' := 49) hE dX9_lastState_48 rfl ?_
      refine x_iadd (pc' := 50) hE dX9_lastState_49 rfl ?_
      refine pM_22 (pc' := 53) hE hM tF_X9_82 dX9_lastState_50 rfl ?_
      refine x_iload_n (pc' := 54) hE dX9_lastState_53 rfl rfl ?_
      refine x_ifeqB (tgt := 61) (pc' := 57) hE dX9_lastState_54 (by decide) rfl (fun h8 => ?_) (fun h8 => ?_)
      · try simp only [decide_eq_true_eq, decide_eq_false_iff_not] at h8
        refine x_iconst (pc' := 62) hE dX9_lastState_61 rfl ?_
        refine x_iret hE dX9_lastState_62 ?_
        first
        | (exfalso; omega)
        | (refine ⟨ri ?_, ?_⟩
           · first | rw [if_pos (by omega)] | rw [if_neg (by omega)]
           · rw [up_n (by omega)]
             unfold laT
             first | rw [if_pos (by omega)] | rw [if_neg (by omega)])
      · try simp only [decide_eq_true_eq, decide_eq_false_iff_not] at h8
        refine x_iconst (pc' := 58) hE dX9_lastState_57 rfl ?_
        refine x_goto (tgt := 62) hE dX9_lastState_58 (by decide) ?_
        refine x_iret hE dX9_lastState_62 ?_
        first
        | (exfalso; omega)
        | (refine ⟨ri ?_, ?_⟩
           · first | rw [if_pos (by omega)] | rw [if_neg (by omega)]
           · rw [up_n (by omega)]
             unfold laT
             first | rw [if_pos (by omega)] | rw [if_neg (by omega)])
    · try simp only [decide_eq_true_eq, decide_eq_false_iff_not] at h7
      refine x_iconst (pc' := 45) hE dX9_lastState_44 rfl ?_
      refine x_goto (tgt := 49) hE dX9_lastState_45 (by decide) ?_
      refine x_iadd (pc' := 50) hE dX9_lastState_49 rfl ?_
      refine pM_22 (pc' := 53) hE hM tF_X9_82 dX9_lastState_50 rfl ?_
      refine x_iload_n (pc' := 54) hE dX9_lastState_53 rfl rfl ?_
      refine x_ifeqB (tgt := 61) (pc' := 57) hE dX9_lastState_54 (by decide) rfl (fun h9 => ?_) (fun h9 => ?_)
      · try simp only [decide_eq_true_eq, decide_eq_false_iff_not] at h9
        refine x_iconst (pc' := 62) hE dX9_lastState_61 rfl ?_
        refine x_iret hE dX9_lastState_62 ?_
        first
        | (exfalso; omega)
        | (refine ⟨ri ?_, ?_⟩
           · first | rw [if_pos (by omega)] | rw [if_neg (by omega)]
           · rw [up_n (by omega)]
             unfold laT
             first | rw [if_pos (by omega)] | rw [if_neg (by omega)])
      · try simp only [decide_eq_true_eq, decide_eq_false_iff_not] at h9
        refine x_iconst (pc' := 58) hE dX9_lastState_57 rfl ?_
        refine x_goto (tgt := 62) hE dX9_lastState_58 (by decide) ?_
        refine x_iret hE dX9_lastState_62 ?_
        first
        | (exfalso; omega)
        | (refine ⟨ri ?_, ?_⟩
           · first | rw [if_pos (by omega)] | rw [if_neg (by omega)]
           · rw [up_n (by omega)]
             unfold laT
             first | rw [if_pos (by omega)] | rw [if_neg (by omega)])
set_option maxHeartbeats 4000000 in
set_option maxRecDepth 10000 in
theorem c_X9_nextState (l : Launch) (G : GM) (τ : St) (s c : Int) (hn : 0 ≤ τ 0 0 0 22 ∧ τ 0 0 0 22 ≤ 6) (hn2 : s ≠ 0 → s ≠ 5 → τ 0 0 0 22 ≤ 5) (hs : 0 ≤ s ∧ s ≤ 5) (hc : 0 ≤ c ∧ c ≤ 126) : Ct l (YM G) yX9_nextState (.code yX9_nextState cX9_nextState 4 (some .int)) 2 [.ref (aM G 0), .int (iN s), .int (iN c)] τ (fun v τ' => v = some (.int (iN (nxX s c (τ 0 0 0 22)))) ∧ τ' = nxT τ s c) := by
  refine Ct_of (own := RX9) [some (.ref (aM G 0)), some (.int (iN s)), some (.int (iN c)), none] rfl rfl (Nat.le_of_ble_eq_true rfl) rfl ?_
  intro E hE hM hl hR
  refine x_iload_n (pc' := 1) hE dX9_nextState_0 rfl rfl ?_
  refine x_bipush (pc' := 3) hE dX9_nextState_1 rfl (by decide +kernel) ?_
  refine x_isub (pc' := 4) hE dX9_nextState_3 rfl ?_
  refine x_istore_n (pc' := 5) hE dX9_nextState_4 rfl (by decide) rfl rfl ?_
  dsimp only [List.set]
  refine x_iload_n (pc' := 6) hE dX9_nextState_5 rfl rfl ?_
  rcases (show s = 0 ∨ s = 1 ∨ s = 2 ∨ s = 3 ∨ s = 4 ∨ (s < 0 ∨ 4 < s) by omega) with h1 | h1 | h1 | h1 | h1 | h1
  · refine x_tabIn (tgt := 40) (off := 34) hE dX9_nextState_6 ⟨by omega, by omega⟩ (by omega) (by omega) (by rw [h1]; rfl) (by decide) ?_
    refine x_iload_n (pc' := 41) hE dX9_nextState_40 rfl rfl ?_
    refine x_bipush (pc' := 43) hE dX9_nextState_41 rfl (by decide +kernel) ?_
    refine x_icmpne (tgt := 50) (pc' := 46) hE dX9_nextState_43 (by decide) rfl ⟨by omega, by omega⟩ ⟨by omega, by omega⟩ (fun h2 => ?_) (fun h2 => ?_)
    · refine x_iload_n (pc' := 51) hE dX9_nextState_50 rfl rfl ?_
      refine x_bipush (pc' := 53) hE dX9_nextState_51 rfl (by decide +kernel) ?_
      refine x_icmpne (tgt := 60) (pc' := 56) hE dX9_nextState_53 (by decide) rfl ⟨by omega, by omega⟩ ⟨by omega, by omega⟩ (fun h3 => ?_) (fun h3 => ?_)
      · refine x_iconst (pc' := 61) hE dX9_nextState_60 rfl ?_
        refine x_iret hE dX9_nextState_61 ?_
        refine ⟨ri ?_, ?_⟩
        · unfold nxX
          repeat' split
          all_goals first | rfl | omega | (exfalso; omega)
        · unfold nxT
          first | rw [if_pos (by omega)] | (rw [if_neg (by omega), if_pos (by omega)]) | (rw [if_neg (by omega), if_neg (by omega), if_pos (by omega)])
      · refine x_iconst (pc' := 57) hE dX9_nextState_56 rfl ?_
        refine x_goto (tgt := 61) hE dX9_nextState_57 (by decide) ?_
        refine x_iret hE dX9_nextState_61 ?_
        refine ⟨ri ?_, ?_⟩
        · unfold nxX
          repeat' split
          all_goals first | rfl | omega | (exfalso; omega)
        · unfold nxT
          first | rw [if_pos (by omega)] | (rw [if_neg (by omega), if_pos (by omega)]) | (rw [if_neg (by omega), if_neg (by omega), if_pos (by omega)])
    · refine x_iconst (pc' := 47) hE dX9_nextState_46 rfl ?_
      refine x_goto (tgt := 61) hE dX9_nextState_47 (by decide) ?_
      refine x_iret hE dX9_nextState_61 ?_
      refine ⟨ri ?_, ?_⟩
      · unfold nxX
        repeat' split
        all_goals first | rfl | omega | (exfalso; omega)
      · unfold nxT
        first | rw [if_pos (by omega)] | (rw [if_neg (by omega), if_pos (by omega)]) | (rw [if_neg (by omega), if_neg (by omega), if_pos (by omega)])
  · refine x_tabIn (tgt := 62) (off := 56) hE dX9_nextState_6 ⟨by omega, by omega⟩ (by omega) (by omega) (by rw [h1]; rfl) (by decide) ?_
    refine x_aload_n (pc' := 63) hE dX9_nextState_62 rfl rfl ?_
    refine gM_23 (pc' := 66) hE hM tF_X9_45 dX9_nextState_63 rfl ?_
    refine x_aload_n (pc' := 67) hE dX9_nextState_66 rfl rfl ?_
    refine gM_22 (pc' := 70) hE hM tF_X9_82 dX9_nextState_67 rfl ?_
    refine x_bipush (pc' := 72) hE dX9_nextState_70 rfl (by decide +kernel) ?_
    refine x_iload_n (pc' := 73) hE dX9_nextState_72 rfl rfl ?_
    refine x_imul (pc' := 74) hE dX9_nextState_73 rfl ?_
    refine sM_11 (pc' := 75) hE hM (by omega) (by omega) dX9_nextState_74 rfl ?_
    refine x_iload_n (pc' := 76) hE dX9_nextState_75 rfl rfl ?_
    refine x_iconst (pc' := 77) hE dX9_nextState_76 rfl ?_
    refine x_iconst (pc' := 78) hE dX9_nextState_77 rfl ?_
    refine x_cS1 (pc' := 81) hE hM (okM G) hl hR (c_X9_within l G _ _ _ _ ⟨by omega, by omega⟩ ⟨by omega, by omega⟩ ⟨by omega, by omega⟩) kX9_within tM_X9_75 (by decide) dX9_nextState_78 rfl rfl (Nat.le_of_ble_eq_true rfl) (fun σ4 e4 => ?_)
    replace e4 := e4.symm
    subst e4
    refine x_ifeqB (tgt := 88) (pc' := 84) hE dX9_nextState_81 (by decide) rfl (fun h5 => ?_) (fun h5 => ?_)
    · try simp only [decide_eq_true_eq, decide_eq_false_iff_not] at h5
      refine x_iconst (pc' := 89) hE dX9_nextState_88 rfl ?_
      refine x_iret hE dX9_nextState_89 ?_
      refine ⟨ri ?_, ?_⟩
      · unfold nxX
        repeat' split
        all_goals first | rfl | omega | (exfalso; omega)
      · unfold nxT
        first | rw [if_pos (by omega)] | (rw [if_neg (by omega), if_pos (by omega)]) | (rw [if_neg (by omega), if_neg (by omega), if_pos (by omega)])
    · try simp only [decide_eq_true_eq, decide_eq_false_iff_not] at h5
      refine x_iconst (pc' := 85) hE dX9_nextState_84 rfl ?_
      refine x_goto (tgt := 89) hE dX9_nextState_85 (by decide) ?_
      refine x_iret hE dX9_nextState_89 ?_
      refine ⟨ri ?_, ?_⟩
      · unfold nxX
        repeat' split
        all_goals first | rfl | omega | (exfalso; omega)
      · unfold nxT
        first | rw [if_pos (by omega)] | (rw [if_neg (by omega), if_pos (by omega)]) | (rw [if_neg (by omega), if_neg (by omega), if_pos (by omega)])
  · refine x_tabIn (tgt := 122) (off := 116) hE dX9_nextState_6 ⟨by omega, by omega⟩ (by omega) (by omega) (by rw [h1]; rfl) (by decide) ?_
    refine x_aload_n (pc' := 123) hE dX9_nextState_122 rfl rfl ?_
    refine x_iload_n (pc' := 124) hE dX9_nextState_123 rfl rfl ?_
    refine x_iload_n (pc' := 125) hE dX9_nextState_124 rfl rfl ?_
    refine x_cV1 (pc' := 128) hE hM (okM G) hl hR (c_X9_lastState l G _ _ _ (by omega) (by omega) (by omega)) kX9_lastState tM_X9_85 (rcvM hM) (by decide) dX9_nextState_125 rfl rfl (Nat.le_of_ble_eq_true rfl) (fun σ6 e6 => ?_)
    replace e6 := e6.symm
    subst e6
    refine x_iret hE dX9_nextState_128 ?_
    refine ⟨ri ?_, ?_⟩
    · unfold nxX
      repeat' split
      all_goals first | rfl | omega | (exfalso; omega)
    · unfold nxT
      rw [if_neg (by omega), if_neg (by omega), if_neg (by omega)]
  · refine x_tabIn (tgt := 90) (off := 84) hE dX9_nextState_6 ⟨by omega, by omega⟩ (by omega) (by omega) (by rw [h1]; rfl) (by decide) ?_
    refine x_aload_n (pc' := 91) hE dX9_nextState_90 rfl rfl ?_
    refine gM_23 (pc' := 94) hE hM tF_X9_45 dX9_nextState_91 rfl ?_
    refine x_aload_n (pc' := 95) hE dX9_nextState_94 rfl rfl ?_
    refine gM_22 (pc' := 98) hE hM tF_X9_82 dX9_nextState_95 rfl ?_
    refine x_bipush (pc' := 100) hE dX9_nextState_98 rfl (by decide +kernel) ?_
    refine x_bipush (pc' := 102) hE dX9_nextState_100 rfl (by decide +kernel) ?_
    refine x_iload_n (pc' := 103) hE dX9_nextState_102 rfl rfl ?_
    refine x_imul (pc' := 104) hE dX9_nextState_103 rfl ?_
    refine x_iadd (pc' := 105) hE dX9_nextState_104 rfl ?_
    refine sM_11 (pc' := 106) hE hM (by omega) (by omega) dX9_nextState_105 rfl ?_
    refine x_iload_n (pc' := 107) hE dX9_nextState_106 rfl rfl ?_
    refine x_iconst (pc' := 108) hE dX9_nextState_107 rfl ?_
    refine x_bipush (pc' := 110) hE dX9_nextState_108 rfl (by decide +kernel) ?_
    refine x_cS1 (pc' := 113) hE hM (okM G) hl hR (c_X9_within l G _ _ _ _ ⟨by omega, by omega⟩ ⟨by omega, by omega⟩ ⟨by omega, by omega⟩) kX9_within tM_X9_75 (by decide) dX9_nextState_110 rfl rfl (Nat.le_of_ble_eq_true rfl) (fun σ7 e7 => ?_)
    replace e7 := e7.symm
    subst e7
    refine x_ifeqB (tgt := 120) (pc' := 116) hE dX9_nextState_113 (by decide) rfl (fun h8 => ?_) (fun h8 => ?_)
    · try simp only [decide_eq_true_eq, decide_eq_false_iff_not] at h8
      refine x_iconst (pc' := 121) hE dX9_nextState_120 rfl ?_
      refine x_iret hE dX9_nextState_121 ?_
      refine ⟨ri ?_, ?_⟩
      · unfold nxX
        repeat' split
        all_goals first | rfl | omega | (exfalso; omega)
      · unfold nxT
        first | rw [if_pos (by omega)] | (rw [if_neg (by omega), if_pos (by omega)]) | (rw [if_neg (by omega), if_neg (by omega), if_pos (by omega)])
    · try simp only [decide_eq_true_eq, decide_eq_false_iff_not] at h8
      refine x_iconst (pc' := 117) hE dX9_nextState_116 rfl ?_
      refine x_goto (tgt := 121) hE dX9_nextState_117 (by decide) ?_
      refine x_iret hE dX9_nextState_121 ?_
      refine ⟨ri ?_, ?_⟩
      · unfold nxX
        repeat' split
        all_goals first | rfl | omega | (exfalso; omega)
      · unfold nxT
        first | rw [if_pos (by omega)] | (rw [if_neg (by omega), if_pos (by omega)]) | (rw [if_neg (by omega), if_neg (by omega), if_pos (by omega)])
  · refine x_tabIn (tgt := 122) (off := 116) hE dX9_nextState_6 ⟨by omega, by omega⟩ (by omega) (by omega) (by rw [h1]; rfl) (by decide) ?_
    refine x_aload_n (pc' := 123) hE dX9_nextState_122 rfl rfl ?_
    refine x_iload_n (pc' := 124) hE dX9_nextState_123 rfl rfl ?_
    refine x_iload_n (pc' := 125) hE dX9_nextState_124 rfl rfl ?_
    refine x_cV1 (pc' := 128) hE hM (okM G) hl hR (c_X9_lastState l G _ _ _ (by omega) (by omega) (by omega)) kX9_lastState tM_X9_85 (rcvM hM) (by decide) dX9_nextState_125 rfl rfl (Nat.le_of_ble_eq_true rfl) (fun σ9 e9 => ?_)
    replace e9 := e9.symm
    subst e9
    refine x_iret hE dX9_nextState_128 ?_
    refine ⟨ri ?_, ?_⟩
    · unfold nxX
      repeat' split
      all_goals first | rfl | omega | (exfalso; omega)
    · unfold nxT
      rw [if_neg (by omega), if_neg (by omega), if_neg (by omega)]
  · refine x_tabOut (tgt := 129) hE dX9_nextState_6 ⟨by omega, by omega⟩ (by omega) (by decide) ?_
    refine x_iload_n (pc' := 130) hE dX9_nextState_129 rfl rfl ?_
    refine x_bipush (pc' := 132) hE dX9_nextState_130 rfl (by decide +kernel) ?_
    refine x_icmpne (tgt := 148) (pc' := 135) hE dX9_nextState_132 (by decide) rfl ⟨by omega, by omega⟩ ⟨by omega, by omega⟩ (fun h10 => ?_) (fun h10 => ?_)
    · refine x_iconst (pc' := 149) hE dX9_nextState_148 rfl ?_
      refine x_iret hE dX9_nextState_149 ?_
      refine ⟨ri ?_, ?_⟩
      · unfold nxX
        repeat' split
        all_goals first | rfl | omega | (exfalso; omega)
      · unfold nxT
        first | rw [if_pos (by omega)] | (rw [if_neg (by omega), if_pos (by omega)]) | (rw [if_neg (by omega), if_neg (by omega), if_pos (by omega)])
    · refine x_aload_n (pc' := 136) hE dX9_nextState_135 rfl rfl ?_
      refine gM_22 (pc' := 139) hE hM tF_X9_82 dX9_nextState_136 rfl ?_
      refine x_bipush (pc' := 141) hE dX9_nextState_139 rfl (by decide +kernel) ?_
      refine x_icmpge (tgt := 148) (pc' := 144) hE dX9_nextState_141 (by decide) rfl ⟨by omega, by omega⟩ ⟨by omega, by omega⟩ (fun h11 => ?_) (fun h11 => ?_)
      · refine x_iconst (pc' := 149) hE dX9_nextState_148 rfl ?_
        refine x_iret hE dX9_nextState_149 ?_
        refine ⟨ri ?_, ?_⟩
        · unfold nxX
          repeat' split
          all_goals first | rfl | omega | (exfalso; omega)
        · unfold nxT
          first | rw [if_pos (by omega)] | (rw [if_neg (by omega), if_pos (by omega)]) | (rw [if_neg (by omega), if_neg (by omega), if_pos (by omega)])
      · refine x_iconst (pc' := 145) hE dX9_nextState_144 rfl ?_
        refine x_goto (tgt := 149) hE dX9_nextState_145 (by decide) ?_
        refine x_iret hE dX9_nextState_149 ?_
        refine ⟨ri ?_, ?_⟩
        · unfold nxX
          repeat' split
          all_goals first | rfl | omega | (exfalso; omega)
        · unfold nxT
          first | rw [if_pos (by omega)] | (rw [if_neg (by omega), if_pos (by omega)]) | (rw [if_neg (by omega), if_neg (by omega), if_pos (by omega)])
set_option maxHeartbeats 4000000 in
set_option maxRecDepth 10000 in
theorem c_X9_readFeasts (l : Launch) (G : GM) (τ : St) (hpl : 0 ≤ τ 0 0 0 18 ∧ τ 0 0 0 18 ≤ 24) (hpg : ∀ k, 0 ≤ k → k < 24 → 0 ≤ τ 10 0 0 k ∧ τ 10 0 0 k ≤ 126) : Ct l (YM G) yX9_readFeasts (.code yX9_readFeasts cX9_readFeasts 5 none) 3 [.ref (aM G 0)] τ (fun v τ' => v = none ∧ (Sd τ τ' ∧ τ' 0 0 0 20 = flt (τ 10 0 0) (τ 0 0 0 18) ∧ τ' 0 0 0 21 = (if whl (τ 10 0 0) (τ 0 0 0 18) then 1 else 0) ∧ (whl (τ 10 0 0) (τ 0 0 0 18) = true → PI (τ 10 0 0) (τ 0 0 0 18) τ'))) := by
  refine Ct_of (own := RX9) [some (.ref (aM G 0)), none, none, none, none] rfl rfl (Nat.le_of_ble_eq_true rfl) rfl ?_
  intro E hE hM hl hR
  have hend : ∀ (U : St) (b : Int), Sd τ U → (whl (τ 10 0 0) (τ 0 0 0 18) = true → PI (τ 10 0 0) (τ 0 0 0 18) U) → b = (if whl (τ 10 0 0) (τ 0 0 0 18) then 1 else 0) → (Sd τ (up (up U 0 0 0 20 (flt (τ 10 0 0) (τ 0 0 0 18))) 0 0 0 21 b) ∧ up (up U 0 0 0 20 (flt (τ 10 0 0) (τ 0 0 0 18))) 0 0 0 21 b 0 0 0 20 = flt (τ 10 0 0) (τ 0 0 0 18) ∧ up (up U 0 0 0 20 (flt (τ 10 0 0) (τ 0 0 0 18))) 0 0 0 21 b 0 0 0 21 = (if whl (τ 10 0 0) (τ 0 0 0 18) then 1 else 0) ∧ (whl (τ 10 0 0) (τ 0 0 0 18) = true → PI (τ 10 0 0) (τ 0 0 0 18) (up (up U 0 0 0 20 (flt (τ 10 0 0) (τ 0 0 0 18))) 0 0 0 21 b))) := by
    intro U b hU hP hb
    refine ⟨(hU.trans (Sd_upx U (by omega))).trans (Sd_upx _ (by omega)), by rw [up_n (by omega), up_s], by rw [up_s, hb], fun hw => ?_⟩
    obtain ⟨p1, p2, p3⟩ := hP hw
    refine ⟨by rw [up_n (by omega), up_n (by omega)]; exact p1, fun j j0 j1 => by rw [up_n (by omega), up_n (by omega)]; exact p2 j j0 j1, fun hc => by rw [up_n (by omega), up_n (by omega)]; exact p3 hc⟩
  have loop : ∀ (n : Nat) (k : Int) (S : St), Sd τ S → PI (τ 10 0 0) k S → 0 ≤ k → k ≤ 23 → k ≤ (τ 0 0 0 18) → 24 - k = n → flt (τ 10 0 0) (τ 0 0 0 18) = fltK (τ 10 0 0) ((τ 0 0 0 18) - k).toNat k → VV E 5 (AS (YM G)) (Qm (YM G) (fun v τ' => v = none ∧ (Sd τ τ' ∧ τ' 0 0 0 20 = flt (τ 10 0 0) (τ 0 0 0 18) ∧ τ' 0 0 0 21 = (if whl (τ 10 0 0) (τ 0 0 0 18) then 1 else 0) ∧ (whl (τ 10 0 0) (τ 0 0 0 18) = true → PI (τ 10 0 0) (τ 0 0 0 18) τ'))) E) (Rh (YM G) (S)) 11 [some (.ref (aM G 0)), some (.int (iN (stF (τ 10 0 0) k))), some (.int (iN (k))), some (.int (iN 1)), none] [] := by
    intro n
    induction n using Nat.strongRecOn with
    | _ n ih =>
    intro k S hd hP g0 g1 g3 g2 g4
    have e18 := hd.at 0 18 (by omega)
    have h22 := hP.1
    have hsb := stF_bd (τ 10 0 0) k
    have hcb := hpg k g0 (by omega)
    have r10 : S 10 0 0 k = τ 10 0 0 k := hd.at 10 k (by omega)
    have hnb := nxX_bd (stF (τ 10 0 0) k) (τ 10 0 0 k) (S 0 0 0 22)
    have hdn := hd.trans (Sd_nxT S (stF (τ 10 0 0) k) (τ 10 0 0 k))
    have hs05 : stF (τ 10 0 0) k ≠ 0 → stF (τ 10 0 0) k ≠ 5 → S 0 0 0 22 ≤ 5 := by omega
    refine x_iload_n (pc' := 12) hE dX9_readFeasts_11 rfl rfl ?_
    refine x_aload_n (pc' := 13) hE dX9_readFeasts_12 rfl rfl ?_
    refine gM_18 (pc' := 16) hE hM tF_X9_79 dX9_readFeasts_13 rfl ?_
    refine x_icmpge (tgt := 74) (pc' := 19) hE dX9_readFeasts_16 (by decide) rfl ⟨by omega, by omega⟩ ⟨by omega, by omega⟩ (fun h1 => ?_) (fun h1 => ?_)
    · refine x_aload_n (pc' := 75) hE dX9_readFeasts_74 rfl rfl ?_
      refine x_iload_n (pc' := 76) hE dX9_readFeasts_75 rfl rfl ?_
      refine pM_20 (pc' := 79) hE hM tF_X9_92 dX9_readFeasts_76 rfl ?_
      refine x_aload_n (pc' := 80) hE dX9_readFeasts_79 rfl rfl ?_
      refine x_iload_n (pc' := 81) hE dX9_readFeasts_80 rfl rfl ?_
      refine x_aload_n (pc' := 82) hE dX9_readFeasts_81 rfl rfl ?_
      refine gM_18 (pc' := 85) hE hM tF_X9_79 dX9_readFeasts_82 rfl ?_
      rw [up_n (by omega)]
      refine x_icmpne (tgt := 97) (pc' := 88) hE dX9_readFeasts_85 (by decide) rfl ⟨by omega, by omega⟩ ⟨by omega, by omega⟩ (fun h2 => ?_) (fun h2 => ?_)
      · refine x_iconst (pc' := 98) hE dX9_readFeasts_97 rfl ?_
        refine pM_21 (pc' := 101) hE hM tF_X9_95 (by omega) dX9_readFeasts_98 rfl ?_
        refine x_vret hE dX9_readFeasts_101 ?_
        have ef : k = flt (τ 10 0 0) (τ 0 0 0 18) := by rw [g4, show (τ 0 0 0 18 - k).toNat = 0 by omega]; rfl
        have ew : whl (τ 10 0 0) (τ 0 0 0 18) = decide (k % 4 = 3) := by unfold whl; rw [show flt (τ 10 0 0) (τ 0 0 0 18) = τ 0 0 0 18 by omega, show k = τ 0 0 0 18 by omega]; simp
        refine ⟨rfl, ?_⟩
        have := hend S (if whl (τ 10 0 0) (τ 0 0 0 18) then 1 else 0) hd (fun _ => by rw [show τ 0 0 0 18 = k by omega]; exact hP) rfl
        rw [← ef] at this ⊢
        have eb : (if whl (τ 10 0 0) (τ 0 0 0 18) then (1 : Int) else 0) = 0 := by rw [ew]; simp; omega
        rw [eb] at this ⊢
        exact this
      · refine x_iload_n (pc' := 89) hE dX9_readFeasts_88 rfl rfl ?_
        refine x_iconst (pc' := 90) hE dX9_readFeasts_89 rfl ?_
        refine x_icmpne (tgt := 97) (pc' := 93) hE dX9_readFeasts_90 (by decide) rfl ⟨by omega, by omega⟩ ⟨by omega, by omega⟩ (fun h3 => ?_) (fun h3 => ?_)
        · refine x_iconst (pc' := 98) hE dX9_readFeasts_97 rfl ?_
          refine pM_21 (pc' := 101) hE hM tF_X9_95 (by omega) dX9_readFeasts_98 rfl ?_
          refine x_vret hE dX9_readFeasts_101 ?_
          have ef : k = flt (τ 10 0 0) (τ 0 0 0 18) := by rw [g4, show (τ 0 0 0 18 - k).toNat = 0 by omega]; rfl
          have ew : whl (τ 10 0 0) (τ 0 0 0 18) = decide (k % 4 = 3) := by unfold whl; rw [show flt (τ 10 0 0) (τ 0 0 0 18) = τ 0 0 0 18 by omega, show k = τ 0 0 0 18 by omega]; simp
          refine ⟨rfl, ?_⟩
          have := hend S (if whl (τ 10 0 0) (τ 0 0 0 18) then 1 else 0) hd (fun _ => by rw [show τ 0 0 0 18 = k by omega]; exact hP) rfl
          rw [← ef] at this ⊢
          have eb : (if whl (τ 10 0 0) (τ 0 0 0 18) then (1 : Int) else 0) = 0 := by rw [ew]; simp; omega
          rw [eb] at this ⊢
          exact this
        · refine x_iconst (pc' := 94) hE dX9_readFeasts_93 rfl ?_
          refine x_goto (tgt := 98) hE dX9_readFeasts_94 (by decide) ?_
          refine pM_21 (pc' := 101) hE hM tF_X9_95 (by omega) dX9_readFeasts_98 rfl ?_
          refine x_vret hE dX9_readFeasts_101 ?_
          have ef : k = flt (τ 10 0 0) (τ 0 0 0 18) := by rw [g4, show (τ 0 0 0 18 - k).toNat = 0 by omega]; rfl
          have ew : whl (τ 10 0 0) (τ 0 0 0 18) = decide (k % 4 = 3) := by unfold whl; rw [show flt (τ 10 0 0) (τ 0 0 0 18) = τ 0 0 0 18 by omega, show k = τ 0 0 0 18 by omega]; simp
          refine ⟨rfl, ?_⟩
          have := hend S (if whl (τ 10 0 0) (τ 0 0 0 18) then 1 else 0) hd (fun _ => by rw [show τ 0 0 0 18 = k by omega]; exact hP) rfl
          rw [← ef] at this ⊢
          have eb : (if whl (τ 10 0 0) (τ 0 0 0 18) then (1 : Int) else 0) = 1 := by rw [ew]; simp; omega
          rw [eb] at this ⊢
          exact this
    · refine x_iload_n (pc' := 20) hE dX9_readFeasts_19 rfl rfl ?_
      refine x_ifeq (tgt := 74) (pc' := 23) hE dX9_readFeasts_20 (by decide) rfl ⟨by omega, by omega⟩ (fun h4 => ?_) (fun h4 => ?_)
      · exact absurd h4 (by decide)
      · refine x_aload_n (pc' := 24) hE dX9_readFeasts_23 rfl rfl ?_
        refine x_iload_n (pc' := 25) hE dX9_readFeasts_24 rfl rfl ?_
        refine x_aload_n (pc' := 26) hE dX9_readFeasts_25 rfl rfl ?_
        refine gM_19 (pc' := 29) hE hM tF_X9_41 dX9_readFeasts_26 rfl ?_
        refine x_iload_n (pc' := 30) hE dX9_readFeasts_29 rfl rfl ?_
        refine aM_10 (pc' := 31) hE hM (by omega) (by omega) dX9_readFeasts_30 rfl ?_
        rw [r10]
        refine x_cV1 (pc' := 34) hE hM (okM G) hl hR (c_X9_nextState l G _ _ _ (by omega) hs05 (by omega) (by omega)) kX9_nextState tM_X9_89 (rcvM hM) (by decide) dX9_readFeasts_31 rfl rfl (Nat.le_of_ble_eq_true rfl) (fun σ5 e5 => ?_)
        replace e5 := e5.symm
        subst e5
        have f18 := hdn.at 0 18 (by omega)
        refine x_istore (pc' := 36) hE dX9_readFeasts_34 rfl (by decide) rfl rfl ?_
        dsimp only [List.set]
        refine x_iload (pc' := 38) hE dX9_readFeasts_36 rfl rfl ?_
        refine x_iconst (pc' := 39) hE dX9_readFeasts_38 rfl ?_
        refine x_icmpeq (tgt := 46) (pc' := 42) hE dX9_readFeasts_39 (by decide) rfl ⟨by omega, by omega⟩ ⟨by omega, by omega⟩ (fun h6 => ?_) (fun h6 => ?_)
        · refine x_iconst (pc' := 47) hE dX9_readFeasts_46 rfl ?_
          refine x_istore_n (pc' := 48) hE dX9_readFeasts_47 rfl (by decide) rfl rfl ?_
          dsimp only [List.set]
          refine x_iload_n (pc' := 49) hE dX9_readFeasts_48 rfl rfl ?_
          refine x_ifeq (tgt := 57) (pc' := 52) hE dX9_readFeasts_49 (by decide) rfl ⟨by omega, by omega⟩ (fun h7 => ?_) (fun h7 => ?_)
          · refine x_iload_n (pc' := 58) hE dX9_readFeasts_57 rfl rfl ?_
            refine x_istore_n (pc' := 59) hE dX9_readFeasts_58 rfl (by decide) rfl rfl ?_
            dsimp only [List.set]
            refine x_iload_n (pc' := 60) hE dX9_readFeasts_59 rfl rfl ?_
            refine x_iload_n (pc' := 61) hE dX9_readFeasts_60 rfl rfl ?_
            refine x_ifeq (tgt := 68) (pc' := 64) hE dX9_readFeasts_61 (by decide) rfl ⟨by omega, by omega⟩ (fun h8 => ?_) (fun h8 => ?_)
            · refine x_iconst (pc' := 69) hE dX9_readFeasts_68 rfl ?_
              refine x_iadd (pc' := 70) hE dX9_readFeasts_69 rfl ?_
              refine x_istore_n (pc' := 71) hE dX9_readFeasts_70 rfl (by decide) rfl rfl ?_
              dsimp only [List.set]
              refine x_goto (tgt := 11) hE dX9_readFeasts_71 (by decide) ?_
              have hno : okL (τ 10 0 0) k = false := by
                by_cases q : okL (τ 10 0 0) k = true
                · have := (PI_n hP g0 q).2
                  have := stF_bd (τ 10 0 0) (k + 1)
                  omega
                · simpa using q
              have ef : k = flt (τ 10 0 0) (τ 0 0 0 18) := by rw [g4, show (τ 0 0 0 18 - k).toNat = (τ 0 0 0 18 - (k + 1)).toNat + 1 by omega, fltK, if_neg (by simp [hno])]
              have ew : whl (τ 10 0 0) (τ 0 0 0 18) = false := by unfold whl; rw [← ef]; simp; omega
              refine x_lve (lv' := [some (.ref (aM G 0)), some (.int (iN (stF (τ 10 0 0) k))), some (.int (iN (k))), some (.int (iN 0)), some (.int (iN (nxX (stF (τ 10 0 0) k) (τ 10 0 0 k) (S 0 0 0 22))))]) (by rw [Int.add_zero]) ?_
              refine x_iload_n (pc' := 12) hE dX9_readFeasts_11 rfl rfl ?_
              refine x_aload_n (pc' := 13) hE dX9_readFeasts_12 rfl rfl ?_
              refine gM_18 (pc' := 16) hE hM tF_X9_79 dX9_readFeasts_13 rfl ?_
              refine x_icmpge (tgt := 74) (pc' := 19) hE dX9_readFeasts_16 (by decide) rfl ⟨by omega, by omega⟩ ⟨by omega, by omega⟩ (fun h9 => ?_) (fun h9 => ?_)
              · refine x_aload_n (pc' := 75) hE dX9_readFeasts_74 rfl rfl ?_
                refine x_iload_n (pc' := 76) hE dX9_readFeasts_75 rfl rfl ?_
                refine pM_20 (pc' := 79) hE hM tF_X9_92 dX9_readFeasts_76 rfl ?_
                refine x_aload_n (pc' := 80) hE dX9_readFeasts_79 rfl rfl ?_
                refine x_iload_n (pc' := 81) hE dX9_readFeasts_80 rfl rfl ?_
                refine x_aload_n (pc' := 82) hE dX9_readFeasts_81 rfl rfl ?_
                refine gM_18 (pc' := 85) hE hM tF_X9_79 dX9_readFeasts_82 rfl ?_
                rw [up_n (by omega)]
                refine x_icmpne (tgt := 97) (pc' := 88) hE dX9_readFeasts_85 (by decide) rfl ⟨by omega, by omega⟩ ⟨by omega, by omega⟩ (fun h10 => ?_) (fun h10 => ?_)
                · refine x_iconst (pc' := 98) hE dX9_readFeasts_97 rfl ?_
                  refine pM_21 (pc' := 101) hE hM tF_X9_95 (by omega) dX9_readFeasts_98 rfl ?_
                  refine x_vret hE dX9_readFeasts_101 ?_
                  refine ⟨rfl, ?_⟩
                  have := hend _ 0 hdn (fun hw => by rw [ew] at hw; cases hw) (by rw [ew]; rfl)
                  rw [← ef] at this ⊢
                  exact this
                · exfalso; omega
              · refine x_iload_n (pc' := 20) hE dX9_readFeasts_19 rfl rfl ?_
                refine x_ifeq (tgt := 74) (pc' := 23) hE dX9_readFeasts_20 (by decide) rfl ⟨by omega, by omega⟩ (fun h11 => ?_) (fun h11 => ?_)
                · refine x_aload_n (pc' := 75) hE dX9_readFeasts_74 rfl rfl ?_
                  refine x_iload_n (pc' := 76) hE dX9_readFeasts_75 rfl rfl ?_
                  refine pM_20 (pc' := 79) hE hM tF_X9_92 dX9_readFeasts_76 rfl ?_
                  refine x_aload_n (pc' := 80) hE dX9_readFeasts_79 rfl rfl ?_
                  refine x_iload_n (pc' := 81) hE dX9_readFeasts_80 rfl rfl ?_
                  refine x_aload_n (pc' := 82) hE dX9_readFeasts_81 rfl rfl ?_
                  refine gM_18 (pc' := 85) hE hM tF_X9_79 dX9_readFeasts_82 rfl ?_
                  rw [up_n (by omega)]
                  refine x_icmpne (tgt := 97) (pc' := 88) hE dX9_readFeasts_85 (by decide) rfl ⟨by omega, by omega⟩ ⟨by omega, by omega⟩ (fun h12 => ?_) (fun h12 => ?_)
                  · refine x_iconst (pc' := 98) hE dX9_readFeasts_97 rfl ?_
                    refine pM_21 (pc' := 101) hE hM tF_X9_95 (by omega) dX9_readFeasts_98 rfl ?_
                    refine x_vret hE dX9_readFeasts_101 ?_
                    refine ⟨rfl, ?_⟩
                    have := hend _ 0 hdn (fun hw => by rw [ew] at hw; cases hw) (by rw [ew]; rfl)
                    rw [← ef] at this ⊢
                    exact this
                  · exfalso; omega
                · exact absurd h11 (by decide)
            · exact absurd h8 (by decide)
          · exact absurd h7 (by decide)
        · refine x_iconst (pc' := 43) hE dX9_readFeasts_42 rfl ?_
          refine x_goto (tgt := 47) hE dX9_readFeasts_43 (by decide) ?_
          refine x_istore_n (pc' := 48) hE dX9_readFeasts_47 rfl (by decide) rfl rfl ?_
          dsimp only [List.set]
          refine x_iload_n (pc' := 49) hE dX9_readFeasts_48 rfl rfl ?_
          refine x_ifeq (tgt := 57) (pc' := 52) hE dX9_readFeasts_49 (by decide) rfl ⟨by omega, by omega⟩ (fun h13 => ?_) (fun h13 => ?_)
          · exact absurd h13 (by decide)
          · refine x_iload (pc' := 54) hE dX9_readFeasts_52 rfl rfl ?_
            refine x_goto (tgt := 58) hE dX9_readFeasts_54 (by decide) ?_
            refine x_istore_n (pc' := 59) hE dX9_readFeasts_58 rfl (by decide) rfl rfl ?_
            dsimp only [List.set]
            refine x_iload_n (pc' := 60) hE dX9_readFeasts_59 rfl rfl ?_
            refine x_iload_n (pc' := 61) hE dX9_readFeasts_60 rfl rfl ?_
            refine x_ifeq (tgt := 68) (pc' := 64) hE dX9_readFeasts_61 (by decide) rfl ⟨by omega, by omega⟩ (fun h14 => ?_) (fun h14 => ?_)
            · exact absurd h14 (by decide)
            · refine x_iconst (pc' := 65) hE dX9_readFeasts_64 rfl ?_
              refine x_goto (tgt := 69) hE dX9_readFeasts_65 (by decide) ?_
              refine x_iadd (pc' := 70) hE dX9_readFeasts_69 rfl ?_
              refine x_istore_n (pc' := 71) hE dX9_readFeasts_70 rfl (by decide) rfl rfl ?_
              dsimp only [List.set]
              refine x_goto (tgt := 11) hE dX9_readFeasts_71 (by decide) ?_
              have hok := nxX_st (by assumption) h22 g0
              obtain ⟨hPn, hsn⟩ := PI_n hP g0 hok
              have k23 : k < 23 := by simp only [okL, decide_eq_true_eq] at hok; omega
              refine x_lvf (lv' := [some (.ref (aM G 0)), some (.int (iN (stF (τ 10 0 0) (k + 1)))), some (.int (iN (k + 1))), some (.int (iN 1)), none]) ⟨Or.inr rfl, Or.inr (by rw [hsn]), Or.inr rfl, Or.inr rfl, Or.inl rfl, trivial⟩ (ih (n - 1) (by omega) (k + 1) _ hdn hPn (by omega) (by omega) (by omega) (by omega) ?_)
              rw [g4, show (τ 0 0 0 18 - k).toNat = (τ 0 0 0 18 - (k + 1)).toNat + 1 by omega, fltK, if_pos hok]
  refine x_aload_n (pc' := 1) hE dX9_readFeasts_0 rfl rfl ?_
  refine x_iconst (pc' := 2) hE dX9_readFeasts_1 rfl ?_
  refine pM_22 (pc' := 5) hE hM tF_X9_82 dX9_readFeasts_2 rfl ?_
  refine x_iconst (pc' := 6) hE dX9_readFeasts_5 rfl ?_
  refine x_istore_n (pc' := 7) hE dX9_readFeasts_6 rfl (by decide) rfl rfl ?_
  dsimp only [List.set]
  refine x_iconst (pc' := 8) hE dX9_readFeasts_7 rfl ?_
  refine x_istore_n (pc' := 9) hE dX9_readFeasts_8 rfl (by decide) rfl rfl ?_
  dsimp only [List.set]
  refine x_iconst (pc' := 10) hE dX9_readFeasts_9 rfl ?_
  refine x_istore_n (pc' := 11) hE dX9_readFeasts_10 rfl (by decide) rfl rfl ?_
  dsimp only [List.set]
  exact loop 24 0 _ (Sd_upx τ (by omega)) ⟨up_s _ _ _ _ _ _, fun j j0 j1 => by omega, fun hc => by omega⟩ (by omega) (by omega) (by omega) (by omega) (by unfold flt; rw [Int.sub_zero])
