def RP (σ : St) (pg : Int → Int) (n : Int) : Prop := σ 1 0 0 1 = n ∧ ∀ k, 0 ≤ k → k < 24 → σ 2 0 0 k = pg k
theorem nar_ch {v : Int} (h0 : 0 ≤ v) (h1 : v < 128) : vp_nar .char (iN v) = iN v := by
  rw [vp_nar_char]
  obtain ⟨n, rfl⟩ := Int.eq_ofNat_of_zero_le h0
  have h : ∀ k : Fin 128, (iN ((k.val : Nat) : Int)).toUInt32.toUInt16.toUInt32.toInt32 = iN ((k.val : Nat) : Int) := by decide +kernel
  exact h ⟨n, by omega⟩
theorem fltK_ok (pg : Int → Int) : ∀ (m : Nat) (k : Int), fltK pg m k = k + m → ∀ i, k ≤ i → i < k + m → okL pg i = true
  | 0, k, _, i, h0, h1 => by omega
  | m + 1, k, h, i, h0, h1 => by
    rw [fltK] at h
    by_cases q : okL pg k = true
    · rw [if_pos q] at h
      by_cases e : i = k
      · rw [e]; exact q
      · exact fltK_ok pg m (k + 1) (by omega) i (by omega) (by omega)
    · rw [if_neg q] at h
      omega
theorem whl_ok {pg : Int → Int} {n : Int} (h : whl pg n = true) (h0 : 0 ≤ n) : n % 4 = 3 ∧ ∀ i, 0 ≤ i → i < n → okL pg i = true := by
  simp only [whl, Bool.and_eq_true, decide_eq_true_eq] at h
  refine ⟨h.1, fun i i0 i1 => fltK_ok pg n.toNat 0 (by have := h.2; unfold flt at this; omega) i i0 (by omega)⟩
def wiF (pg : Int → Int) (j y : Int) : Int := if pg (4 * j) = 102 then 10 * (pg (4 * j + 1) - 48) + (pg (4 * j + 2) - 48) else (pg (4 * j + 1) - 48 - 30 * y) % 7 + 7 * (pg (4 * j + 2) - 48 - 1)
def mtF (pg : Int → Int) (d k : Int) : Bool := decide (cdF pg k = d % 30) || decide (cdF pg k = 100 + 10 * (d % 7) + d % 30 / 7 + 1)
theorem fe_ok {pg : Int → Int} {n j : Int} (h : whl pg n = true) (h0 : 0 ≤ n) (j0 : 0 ≤ j) (j1 : j < (n + 1) / 4) : (pg (4 * j) = 102 ∧ 48 ≤ pg (4 * j + 1) ∧ pg (4 * j + 1) ≤ 50 ∧ 48 ≤ pg (4 * j + 2) ∧ pg (4 * j + 2) ≤ 57) ∨ (pg (4 * j) = 109 ∧ 48 ≤ pg (4 * j + 1) ∧ pg (4 * j + 1) ≤ 54 ∧ 49 ≤ pg (4 * j + 2) ∧ pg (4 * j + 2) ≤ 52) := by
  obtain ⟨h1, h2⟩ := whl_ok h h0
  have a := h2 (4 * j) (by omega) (by omega)
  have b := h2 (4 * j + 1) (by omega) (by omega)
  have c := h2 (4 * j + 2) (by omega) (by omega)
  simp only [okL, decide_eq_true_eq] at a b c
  rw [show 4 * j + 1 - 1 = 4 * j by omega] at b
  rw [show 4 * j + 2 - 2 = 4 * j by omega] at c
  have e0 : (4 * j) % 4 = 0 := by omega
  have e1 : (4 * j + 1) % 4 = 1 := by omega
  have e2 : (4 * j + 2) % 4 = 2 := by omega
  omega
theorem mt_year {pg : Int → Int} {n j y d : Int} (h : whl pg n = true) (h0 : 0 ≤ n) (j0 : 0 ≤ j) (j1 : j < (n + 1) / 4) (y0 : 0 ≤ y) (d0 : 30 * y ≤ d) (d1 : d < 30 * y + 30) : mtF pg d j = decide (d = 30 * y + wiF pg j y) := by
  have hf := fe_ok h h0 j0 j1
  unfold mtF cdF wiF
  generalize pg (4 * j) = p0 at *
  generalize pg (4 * j + 1) = p1 at *
  generalize pg (4 * j + 2) = p2 at *
  have ed : d % 30 = d - 30 * y := by omega
  rw [ed]
  rw [Bool.eq_iff_iff]
  simp only [Bool.or_eq_true, decide_eq_true_eq]
  rcases hf with ⟨rfl, f1, f2, f3, f4⟩ | ⟨rfl, f1, f2, f3, f4⟩
  · rw [if_pos rfl, if_pos rfl]
    omega
  · rw [if_neg (by decide), if_neg (by decide)]
    have b0 : 0 ≤ (d - 30 * y) / 7 ∧ (d - 30 * y) / 7 ≤ 4 := by omega
    have a0 : 0 ≤ d % 7 ∧ d % 7 ≤ 6 := by omega
    constructor
    · intro hh
      have ha : d % 7 = p1 - 48 ∧ (d - 30 * y) / 7 + 1 = p2 - 48 := by
        generalize (d - 30 * y) / 7 = b at *
        generalize d % 7 = a at *
        omega
      have hr : (p1 - 48 - 30 * y) % 7 = (d - 30 * y) % 7 := by
        rw [← ha.1]
        omega
      rw [hr]
      omega
    · intro hh
      right
      have hq : (d - 30 * y) / 7 = p2 - 48 - 1 := by
        generalize hz : (p1 - 48 - 30 * y) % 7 = z at *
        have : 0 ≤ z ∧ z < 7 := by omega
        omega
      have hr : (d - 30 * y) % 7 = (p1 - 48 - 30 * y) % 7 := by
        generalize hz : (p1 - 48 - 30 * y) % 7 = z at *
        have : 0 ≤ z ∧ z < 7 := by omega
        omega
      have ha : d % 7 = p1 - 48 := by omega
      rw [hq, ha]
      omega
theorem wi_bd {pg : Int → Int} {n j : Int} (y : Int) (h : whl pg n = true) (h0 : 0 ≤ n) (j0 : 0 ≤ j) (j1 : j < (n + 1) / 4) : 0 ≤ wiF pg j y ∧ wiF pg j y < 30 := by
  have hf := fe_ok h h0 j0 j1
  unfold wiF
  split <;> omega
/-- a mark of a day while feast j is read, y years of it -/
def mrk (pg : Int → Int) (j y d : Int) : Bool := anyU (mtF pg d) j.toNat || (decide (d < 30 * y) && mtF pg d j)
theorem mrk_0 (pg : Int → Int) {j d : Int} (d0 : 0 ≤ d) : mrk pg j 0 d = anyU (mtF pg d) j.toNat := by
  unfold mrk
  rw [decide_eq_false (by omega)]
  simp
theorem mrk_7 (pg : Int → Int) {j d : Int} (j0 : 0 ≤ j) (d1 : d < 210) : mrk pg j 7 d = anyU (mtF pg d) (j + 1).toNat := by
  unfold mrk
  rw [decide_eq_true (by omega), anyU_s _ j0, Bool.true_and]
theorem mrk_s {pg : Int → Int} {n j y d : Int} (h : whl pg n = true) (h0 : 0 ≤ n) (j0 : 0 ≤ j) (j1 : j < (n + 1) / 4) (y0 : 0 ≤ y) (d0 : 0 ≤ d) : mrk pg j (y + 1) d = (mrk pg j y d || decide (d = 30 * y + wiF pg j y)) := by
  have hw := wi_bd y h h0 j0 j1
  unfold mrk
  by_cases a : d < 30 * y
  · rw [decide_eq_true a, decide_eq_true (show d < 30 * (y + 1) by omega), decide_eq_false (show ¬ d = 30 * y + wiF pg j y by omega), Bool.or_false]
  · rw [decide_eq_false a, Bool.false_and, Bool.or_false]
    by_cases b : d < 30 * (y + 1)
    · rw [decide_eq_true b, Bool.true_and, mt_year h h0 j0 j1 y0 (by omega) (by omega)]
    · rw [decide_eq_false b, Bool.false_and, decide_eq_false (show ¬ d = 30 * y + wiF pg j y by omega)]
theorem isF_mt (pg : Int → Int) (fn d : Int) : isF fn (cdF pg) d = anyU (mtF pg d) fn.toNat := rfl
/-- feasts are read, all else stays -/
def FrF (σ σ' : St) : Prop := ∀ a b c d, ¬ ((a = 3 ∨ a = 4) ∧ b = 0 ∧ c = 0) → σ' a b c d = σ a b c d
theorem FrF.trans {a b c : St} (h1 : FrF a b) (h2 : FrF b c) : FrF a c := fun k i x y h => (h2 k i x y h).trans (h1 k i x y h)
theorem FrF_up (S : St) {k : Nat} (d v : Int) (hk : k = 3 ∨ k = 4) : FrF S (up S k 0 0 d v) := fun a b c x h => up_n (by omega)
theorem FrF.rp {σ σ' : St} {pg : Int → Int} {n : Int} (h : FrF σ σ') (hP : RP σ pg n) : RP σ' pg n := ⟨by rw [h _ _ _ _ (by omega)]; exact hP.1, fun k k0 k1 => by rw [h _ _ _ _ (by omega)]; exact hP.2 k k0 k1⟩
set_option maxHeartbeats 4000000 in
set_option maxRecDepth 10000 in
theorem c_X5_put (l : Launch) (G : GC) (σ : St) (pg : Int → Int) (n : Int) (hP : RP σ pg n) (hn : 0 ≤ n ∧ n ≤ 24) (hb : ∀ k, 0 ≤ k → k < 24 → 0 ≤ pg k ∧ pg k ≤ 126) (c : Int) (c0 : 0 ≤ c) (c1 : c ≤ 126) : Ct l (YC G) yX5_put (.code yX5_put cX5_put 2 (some .boolean)) 0 [.ref (aC G 1 0 0), .int (iN c)] σ (fun v σ' => v = some (.int (bI (decide (n < 24)))) ∧ σ' = if n < 24 then up (up σ 2 0 0 n c) 1 0 0 1 (n + 1) else σ) := by
  refine Ct_of (own := RX5) [some (.ref (aC G 1 0 0)), some (.int (iN c))] rfl rfl (Nat.le_of_ble_eq_true rfl) rfl ?_
  intro E hE hM hl hR
  obtain ⟨p1, p2⟩ := id hP
  refine x_aload_n (pc' := 1) hE dX5_put_0 rfl rfl ?_
  refine g_X5_1 (pc' := 4) hE hM tF_X5_15 dX5_put_1 rfl ?_
  refine x_aload_n (pc' := 5) hE dX5_put_4 rfl rfl ?_
  refine g_X5_0 (pc' := 8) hE hM tF_X5_9 dX5_put_5 rfl ?_
  refine lC_2 (pc' := 9) hE hM dX5_put_8 rfl ?_
  refine x_icmplt (tgt := 14) (pc' := 12) hE dX5_put_9 (by decide) rfl ⟨by omega, by omega⟩ ⟨by omega, by omega⟩ (fun h1 => ?_) (fun h1 => ?_)
  · refine x_aload_n (pc' := 15) hE dX5_put_14 rfl rfl ?_
    refine g_X5_0 (pc' := 18) hE hM tF_X5_9 dX5_put_15 rfl ?_
    refine x_aload_n (pc' := 19) hE dX5_put_18 rfl rfl ?_
    refine g_X5_1 (pc' := 22) hE hM tF_X5_15 dX5_put_19 rfl ?_
    rw [p1]
    refine x_iload_n (pc' := 23) hE dX5_put_22 rfl rfl ?_
    refine sC_2 (pc' := 24) hE hM (by omega) (by omega) (nar_ch (by omega) (by omega)) dX5_put_23 rfl ?_
    refine x_aload_n (pc' := 25) hE dX5_put_24 rfl rfl ?_
    refine x_dup (pc' := 26) hE dX5_put_25 rfl rfl ?_
    refine g_X5_1 (pc' := 29) hE hM tF_X5_15 dX5_put_26 rfl ?_
    rw [up_n (by omega), p1]
    refine x_iconst (pc' := 30) hE dX5_put_29 rfl ?_
    refine x_iadd (pc' := 31) hE dX5_put_30 rfl ?_
    refine p_X5_1 (pc' := 34) hE hM tF_X5_15 dX5_put_31 rfl ?_
    refine x_iconst (pc' := 35) hE dX5_put_34 rfl ?_
    refine x_zret hE dX5_put_35 (by rfl) ?_
    exact ⟨rb1 (by simp; omega), by rw [if_pos (by omega)]⟩
  · refine x_iconst (pc' := 13) hE dX5_put_12 rfl ?_
    refine x_zret hE dX5_put_13 (by rfl) ?_
    exact ⟨rb0 (by simp; omega), by rw [if_neg (by omega)]⟩
set_option maxHeartbeats 4000000 in
set_option maxRecDepth 10000 in
theorem c_X5_clear (l : Launch) (G : GC) (σ : St) : Ct l (YC G) yX5_clear (.code yX5_clear cX5_clear 1 none) 0 [.ref (aC G 1 0 0)] σ (fun v σ' => v = none ∧ σ' = up σ 1 0 0 1 0) := by
  refine Ct_of (own := RX5) [some (.ref (aC G 1 0 0))] rfl rfl (Nat.le_of_ble_eq_true rfl) rfl ?_
  intro E hE hM hl hR
  refine x_aload_n (pc' := 1) hE dX5_clear_0 rfl rfl ?_
  refine x_iconst (pc' := 2) hE dX5_clear_1 rfl ?_
  refine p_X5_1 (pc' := 5) hE hM tF_X5_15 dX5_clear_2 rfl ?_
  refine x_vret hE dX5_clear_5 ?_
  exact ⟨rfl, rfl⟩
set_option maxHeartbeats 4000000 in
set_option maxRecDepth 10000 in
theorem c_X5_staysAt (l : Launch) (G : GC) (σ : St) (pg : Int → Int) (n : Int) (hP : RP σ pg n) (hn : 0 ≤ n ∧ n ≤ 24) (hb : ∀ k, 0 ≤ k → k < 24 → 0 ≤ pg k ∧ pg k ≤ 126) (k : Int) (k0 : 0 ≤ k) (k1 : k < 24) : Ct l (YC G) yX5_staysAt (.code yX5_staysAt cX5_staysAt 2 (some .boolean)) 0 [.ref (aC G 1 0 0), .int (iN k)] σ (fun v σ' => v = some (.int (bI (decide (pg k = 102)))) ∧ σ' = σ) := by
  refine Ct_of (own := RX5) [some (.ref (aC G 1 0 0)), some (.int (iN k))] rfl rfl (Nat.le_of_ble_eq_true rfl) rfl ?_
  intro E hE hM hl hR
  have q1 := hP.2 k k0 k1
  have q2 := hb k k0 k1
  refine x_aload_n (pc' := 1) hE dX5_staysAt_0 rfl rfl ?_
  refine g_X5_0 (pc' := 4) hE hM tF_X5_9 dX5_staysAt_1 rfl ?_
  refine x_iload_n (pc' := 5) hE dX5_staysAt_4 rfl rfl ?_
  refine aC_2 (pc' := 6) hE hM (by omega) (by omega) dX5_staysAt_5 rfl ?_
  refine x_bipush (pc' := 8) hE dX5_staysAt_6 rfl (by decide +kernel) ?_
  refine x_icmpne (tgt := 15) (pc' := 11) hE dX5_staysAt_8 (by decide) rfl ⟨by omega, by omega⟩ ⟨by omega, by omega⟩ (fun h1 => ?_) (fun h1 => ?_)
  · refine x_iconst (pc' := 16) hE dX5_staysAt_15 rfl ?_
    refine x_zret hE dX5_staysAt_16 (by rfl) ?_
    exact ⟨rb0 (by simp; omega), rfl⟩
  · refine x_iconst (pc' := 12) hE dX5_staysAt_11 rfl ?_
    refine x_goto (tgt := 16) hE dX5_staysAt_12 (by decide) ?_
    refine x_zret hE dX5_staysAt_16 (by rfl) ?_
    exact ⟨rb1 (by simp; omega), rfl⟩
set_option maxHeartbeats 4000000 in
set_option maxRecDepth 10000 in
theorem c_X5_digitAt (l : Launch) (G : GC) (σ : St) (pg : Int → Int) (n : Int) (hP : RP σ pg n) (hn : 0 ≤ n ∧ n ≤ 24) (hb : ∀ k, 0 ≤ k → k < 24 → 0 ≤ pg k ∧ pg k ≤ 126) (k : Int) (k0 : 0 ≤ k) (k1 : k < 24) : Ct l (YC G) yX5_digitAt (.code yX5_digitAt cX5_digitAt 2 (some .int)) 0 [.ref (aC G 1 0 0), .int (iN k)] σ (fun v σ' => v = some (.int (iN (pg k - 48))) ∧ σ' = σ) := by
  refine Ct_of (own := RX5) [some (.ref (aC G 1 0 0)), some (.int (iN k))] rfl rfl (Nat.le_of_ble_eq_true rfl) rfl ?_
  intro E hE hM hl hR
  have q1 := hP.2 k k0 k1
  have q2 := hb k k0 k1
  refine x_aload_n (pc' := 1) hE dX5_digitAt_0 rfl rfl ?_
  refine g_X5_0 (pc' := 4) hE hM tF_X5_9 dX5_digitAt_1 rfl ?_
  refine x_iload_n (pc' := 5) hE dX5_digitAt_4 rfl rfl ?_
  refine aC_2 (pc' := 6) hE hM (by omega) (by omega) dX5_digitAt_5 rfl ?_
  refine x_bipush (pc' := 8) hE dX5_digitAt_6 rfl (by decide +kernel) ?_
  refine x_isub (pc' := 9) hE dX5_digitAt_8 rfl ?_
  refine x_iret hE dX5_digitAt_9 ?_
  exact ⟨ri (by omega), rfl⟩
set_option maxHeartbeats 4000000 in
set_option maxRecDepth 10000 in
theorem c_X5_mayStand (l : Launch) (G : GC) (σ : St) (pg : Int → Int) (n : Int) (hP : RP σ pg n) (hn : 0 ≤ n ∧ n ≤ 24) (hb : ∀ k, 0 ≤ k → k < 24 → 0 ≤ pg k ∧ pg k ≤ 126) (k : Int) (k0 : 0 ≤ k) (k1 : k < 24) : Ct l (YC G) yX5_mayStand (.code yX5_mayStand cX5_mayStand 4 (some .boolean)) 1 [.ref (aC G 1 0 0), .int (iN k)] σ (fun v σ' => v = some (.int (bI (okL pg k))) ∧ σ' = σ) := by
  refine Ct_of (own := RX5) [some (.ref (aC G 1 0 0)), some (.int (iN k)), none, none] rfl rfl (Nat.le_of_ble_eq_true rfl) rfl ?_
  intro E hE hM hl hR
  have q1 := hP.2 k k0 k1
  have q2 := hb k k0 k1
  have e1 : k % 4 = 1 → k - k % 4 = k - 1 := by omega
  have e2 : k % 4 = 2 → k - k % 4 = k - 2 := by omega
  refine x_iload_n (pc' := 1) hE dX5_mayStand_0 rfl rfl ?_
  refine x_bipush (pc' := 3) hE dX5_mayStand_1 rfl (by decide +kernel) ?_
  refine x_icmplt (tgt := 8) (pc' := 6) hE dX5_mayStand_3 (by decide) rfl ⟨by omega, by omega⟩ ⟨by omega, by omega⟩ (fun h1 => ?_) (fun h1 => ?_)
  · refine x_aload_n (pc' := 9) hE dX5_mayStand_8 rfl rfl ?_
    refine g_X5_0 (pc' := 12) hE hM tF_X5_9 dX5_mayStand_9 rfl ?_
    refine x_iload_n (pc' := 13) hE dX5_mayStand_12 rfl rfl ?_
    refine aC_2 (pc' := 14) hE hM (by omega) (by omega) dX5_mayStand_13 rfl ?_
    refine x_istore_n (pc' := 15) hE dX5_mayStand_14 rfl (by decide) rfl rfl ?_
    dsimp only [List.set]
    refine x_aload_n (pc' := 16) hE dX5_mayStand_15 rfl rfl ?_
    refine x_iload_n (pc' := 17) hE dX5_mayStand_16 rfl rfl ?_
    refine x_iload_n (pc' := 18) hE dX5_mayStand_17 rfl rfl ?_
    refine x_iconst (pc' := 19) hE dX5_mayStand_18 rfl ?_
    refine x_irem (pc' := 20) hE dX5_mayStand_19 rfl (by omega) (by omega) (by omega) (by omega) ?_
    refine x_isub (pc' := 21) hE dX5_mayStand_20 rfl ?_
    refine x_cV1 (pc' := 24) hE hM (okC G) hl hR (c_X5_staysAt l G _ _ _ (by assumption) (by omega) (by assumption) _ (by omega) (by omega)) kX5_staysAt tM_X5_27 (rcv_X5 hM) (by decide) dX5_mayStand_21 rfl rfl (Nat.le_of_ble_eq_true rfl) (fun σ2 e2 => ?_)
    replace e2 := e2.symm
    subst e2
    refine x_istore_n (pc' := 25) hE dX5_mayStand_24 rfl (by decide) rfl rfl ?_
    dsimp only [List.set]
    refine x_iload_n (pc' := 26) hE dX5_mayStand_25 rfl rfl ?_
    refine x_iconst (pc' := 27) hE dX5_mayStand_26 rfl ?_
    refine x_irem (pc' := 28) hE dX5_mayStand_27 rfl (by omega) (by omega) (by omega) (by omega) ?_
    rcases (show k % 4 = 0 ∨ k % 4 = 1 ∨ k % 4 = 2 ∨ (k % 4 < 0 ∨ 2 < k % 4) by omega) with h3 | h3 | h3 | h3
    · refine x_tabIn (tgt := 56) (off := 28) hE dX5_mayStand_28 ⟨by omega, by omega⟩ (by omega) (by omega) (by rw [h3]; rfl) (by decide) ?_
      refine x_iload_n (pc' := 57) hE dX5_mayStand_56 rfl rfl ?_
      refine x_bipush (pc' := 59) hE dX5_mayStand_57 rfl (by decide +kernel) ?_
      refine x_icmpeq (tgt := 68) (pc' := 62) hE dX5_mayStand_59 (by decide) rfl ⟨by omega, by omega⟩ ⟨by omega, by omega⟩ (fun h4 => ?_) (fun h4 => ?_)
      · refine x_iconst (pc' := 69) hE dX5_mayStand_68 rfl ?_
        refine x_goto (tgt := 73) hE dX5_mayStand_69 (by decide) ?_
        refine x_zret hE dX5_mayStand_73 (by rfl) ?_
        refine ⟨rb1 ?_, rfl⟩
        unfold okL
        simp only [decide_eq_true_eq]
        omega
      · refine x_iload_n (pc' := 63) hE dX5_mayStand_62 rfl rfl ?_
        refine x_bipush (pc' := 65) hE dX5_mayStand_63 rfl (by decide +kernel) ?_
        refine x_icmpne (tgt := 72) (pc' := 68) hE dX5_mayStand_65 (by decide) rfl ⟨by omega, by omega⟩ ⟨by omega, by omega⟩ (fun h5 => ?_) (fun h5 => ?_)
        · refine x_iconst (pc' := 73) hE dX5_mayStand_72 rfl ?_
          refine x_zret hE dX5_mayStand_73 (by rfl) ?_
          refine ⟨rb0 ?_, rfl⟩
          unfold okL
          simp only [decide_eq_false_iff_not]
          omega
        · refine x_iconst (pc' := 69) hE dX5_mayStand_68 rfl ?_
          refine x_goto (tgt := 73) hE dX5_mayStand_69 (by decide) ?_
          refine x_zret hE dX5_mayStand_73 (by rfl) ?_
          refine ⟨rb1 ?_, rfl⟩
          unfold okL
          simp only [decide_eq_true_eq]
          omega
    · refine x_tabIn (tgt := 74) (off := 46) hE dX5_mayStand_28 ⟨by omega, by omega⟩ (by omega) (by omega) (by rw [h3]; rfl) (by decide) ?_
      refine x_iload_n (pc' := 75) hE dX5_mayStand_74 rfl rfl ?_
      refine x_bipush (pc' := 77) hE dX5_mayStand_75 rfl (by decide +kernel) ?_
      refine x_icmplt (tgt := 99) (pc' := 80) hE dX5_mayStand_77 (by decide) rfl ⟨by omega, by omega⟩ ⟨by omega, by omega⟩ (fun h6 => ?_) (fun h6 => ?_)
      · refine x_iconst (pc' := 100) hE dX5_mayStand_99 rfl ?_
        refine x_zret hE dX5_mayStand_100 (by rfl) ?_
        refine ⟨rb0 ?_, rfl⟩
        rw [e1 (by assumption)] at *
        unfold okL
        simp only [decide_eq_false_iff_not]
        omega
      · refine x_iload_n (pc' := 81) hE dX5_mayStand_80 rfl rfl ?_
        refine x_iload_n (pc' := 82) hE dX5_mayStand_81 rfl rfl ?_
        refine x_ifeqB (tgt := 90) (pc' := 85) hE dX5_mayStand_82 (by decide) rfl (fun h7 => ?_) (fun h7 => ?_)
        · try simp only [decide_eq_true_eq, decide_eq_false_iff_not] at h7
          refine x_bipush (pc' := 92) hE dX5_mayStand_90 rfl (by decide +kernel) ?_
          refine x_icmpgt (tgt := 99) (pc' := 95) hE dX5_mayStand_92 (by decide) rfl ⟨by omega, by omega⟩ ⟨by omega, by omega⟩ (fun h8 => ?_) (fun h8 => ?_)
          · refine x_iconst (pc' := 100) hE dX5_mayStand_99 rfl ?_
            refine x_zret hE dX5_mayStand_100 (by rfl) ?_
            refine ⟨rb0 ?_, rfl⟩
            rw [e1 (by assumption)] at *
            unfold okL
            simp only [decide_eq_false_iff_not]
            omega
          · refine x_iconst (pc' := 96) hE dX5_mayStand_95 rfl ?_
            refine x_goto (tgt := 100) hE dX5_mayStand_96 (by decide) ?_
            refine x_zret hE dX5_mayStand_100 (by rfl) ?_
            refine ⟨rb1 ?_, rfl⟩
            rw [e1 (by assumption)] at *
            unfold okL
            simp only [decide_eq_true_eq]
            omega
        · try simp only [decide_eq_true_eq, decide_eq_false_iff_not] at h7
          refine x_bipush (pc' := 87) hE dX5_mayStand_85 rfl (by decide +kernel) ?_
          refine x_goto (tgt := 92) hE dX5_mayStand_87 (by decide) ?_
          refine x_icmpgt (tgt := 99) (pc' := 95) hE dX5_mayStand_92 (by decide) rfl ⟨by omega, by omega⟩ ⟨by omega, by omega⟩ (fun h9 => ?_) (fun h9 => ?_)
          · refine x_iconst (pc' := 100) hE dX5_mayStand_99 rfl ?_
            refine x_zret hE dX5_mayStand_100 (by rfl) ?_
            refine ⟨rb0 ?_, rfl⟩
            rw [e1 (by assumption)] at *
            unfold okL
            simp only [decide_eq_false_iff_not]
            omega
          · refine x_iconst (pc' := 96) hE dX5_mayStand_95 rfl ?_
            refine x_goto (tgt := 100) hE dX5_mayStand_96 (by decide) ?_
            refine x_zret hE dX5_mayStand_100 (by rfl) ?_
            refine ⟨rb1 ?_, rfl⟩
            rw [e1 (by assumption)] at *
            unfold okL
            simp only [decide_eq_true_eq]
            omega
    · refine x_tabIn (tgt := 101) (off := 73) hE dX5_mayStand_28 ⟨by omega, by omega⟩ (by omega) (by omega) (by rw [h3]; rfl) (by decide) ?_
      refine x_iload_n (pc' := 102) hE dX5_mayStand_101 rfl rfl ?_
      refine x_iload_n (pc' := 103) hE dX5_mayStand_102 rfl rfl ?_
      refine x_ifeqB (tgt := 111) (pc' := 106) hE dX5_mayStand_103 (by decide) rfl (fun h10 => ?_) (fun h10 => ?_)
      · try simp only [decide_eq_true_eq, decide_eq_false_iff_not] at h10
        refine x_bipush (pc' := 113) hE dX5_mayStand_111 rfl (by decide +kernel) ?_
        refine x_icmplt (tgt := 135) (pc' := 116) hE dX5_mayStand_113 (by decide) rfl ⟨by omega, by omega⟩ ⟨by omega, by omega⟩ (fun h11 => ?_) (fun h11 => ?_)
        · refine x_iconst (pc' := 136) hE dX5_mayStand_135 rfl ?_
          refine x_zret hE dX5_mayStand_136 (by rfl) ?_
          refine ⟨rb0 ?_, rfl⟩
          rw [e2 (by assumption)] at *
          unfold okL
          simp only [decide_eq_false_iff_not]
          omega
        · refine x_iload_n (pc' := 117) hE dX5_mayStand_116 rfl rfl ?_
          refine x_iload_n (pc' := 118) hE dX5_mayStand_117 rfl rfl ?_
          refine x_ifeqB (tgt := 126) (pc' := 121) hE dX5_mayStand_118 (by decide) rfl (fun h12 => ?_) (fun h12 => ?_)
          · try simp only [decide_eq_true_eq, decide_eq_false_iff_not] at h12
            refine x_bipush (pc' := 128) hE dX5_mayStand_126 rfl (by decide +kernel) ?_
            refine x_icmpgt (tgt := 135) (pc' := 131) hE dX5_mayStand_128 (by decide) rfl ⟨by omega, by omega⟩ ⟨by omega, by omega⟩ (fun h13 => ?_) (fun h13 => ?_)
            · refine x_iconst (pc' := 136) hE dX5_mayStand_135 rfl ?_
              refine x_zret hE dX5_mayStand_136 (by rfl) ?_
              refine ⟨rb0 ?_, rfl⟩
              rw [e2 (by assumption)] at *
              unfold okL
              simp only [decide_eq_false_iff_not]
              omega
            · refine x_iconst (pc' := 132) hE dX5_mayStand_131 rfl ?_
              refine x_goto (tgt := 136) hE dX5_mayStand_132 (by decide) ?_
              refine x_zret hE dX5_mayStand_136 (by rfl) ?_
              refine ⟨rb1 ?_, rfl⟩
              rw [e2 (by assumption)] at *
              unfold okL
              simp only [decide_eq_true_eq]
              omega
          · try simp only [decide_eq_true_eq, decide_eq_false_iff_not] at h12
            refine x_bipush (pc' := 123) hE dX5_mayStand_121 rfl (by decide +kernel) ?_
            refine x_goto (tgt := 128) hE dX5_mayStand_123 (by decide) ?_
            refine x_icmpgt (tgt := 135) (pc' := 131) hE dX5_mayStand_128 (by decide) rfl ⟨by omega, by omega⟩ ⟨by omega, by omega⟩ (fun h14 => ?_) (fun h14 => ?_)
            · refine x_iconst (pc' := 136) hE dX5_mayStand_135 rfl ?_
              refine x_zret hE dX5_mayStand_136 (by rfl) ?_
              refine ⟨rb0 ?_, rfl⟩
              rw [e2 (by assumption)] at *
              unfold okL
              simp only [decide_eq_false_iff_not]
              omega
            · refine x_iconst (pc' := 132) hE dX5_mayStand_131 rfl ?_
              refine x_goto (tgt := 136) hE dX5_mayStand_132 (by decide) ?_
              refine x_zret hE dX5_mayStand_136 (by rfl) ?_
              refine ⟨rb1 ?_, rfl⟩
              rw [e2 (by assumption)] at *
              unfold okL
              simp only [decide_eq_true_eq]
              omega
      · try simp only [decide_eq_true_eq, decide_eq_false_iff_not] at h10
        refine x_bipush (pc' := 108) hE dX5_mayStand_106 rfl (by decide +kernel) ?_
        refine x_goto (tgt := 113) hE dX5_mayStand_108 (by decide) ?_
        refine x_icmplt (tgt := 135) (pc' := 116) hE dX5_mayStand_113 (by decide) rfl ⟨by omega, by omega⟩ ⟨by omega, by omega⟩ (fun h15 => ?_) (fun h15 => ?_)
        · refine x_iconst (pc' := 136) hE dX5_mayStand_135 rfl ?_
          refine x_zret hE dX5_mayStand_136 (by rfl) ?_
          refine ⟨rb0 ?_, rfl⟩
          rw [e2 (by assumption)] at *
          unfold okL
          simp only [decide_eq_false_iff_not]
          omega
        · refine x_iload_n (pc' := 117) hE dX5_mayStand_116 rfl rfl ?_
          refine x_iload_n (pc' := 118) hE dX5_mayStand_117 rfl rfl ?_
          refine x_ifeqB (tgt := 126) (pc' := 121) hE dX5_mayStand_118 (by decide) rfl (fun h16 => ?_) (fun h16 => ?_)
          · try simp only [decide_eq_true_eq, decide_eq_false_iff_not] at h16
            refine x_bipush (pc' := 128) hE dX5_mayStand_126 rfl (by decide +kernel) ?_
            refine x_icmpgt (tgt := 135) (pc' := 131) hE dX5_mayStand_128 (by decide) rfl ⟨by omega, by omega⟩ ⟨by omega, by omega⟩ (fun h17 => ?_) (fun h17 => ?_)
            · refine x_iconst (pc' := 136) hE dX5_mayStand_135 rfl ?_
              refine x_zret hE dX5_mayStand_136 (by rfl) ?_
              refine ⟨rb0 ?_, rfl⟩
              rw [e2 (by assumption)] at *
              unfold okL
              simp only [decide_eq_false_iff_not]
              omega
            · refine x_iconst (pc' := 132) hE dX5_mayStand_131 rfl ?_
              refine x_goto (tgt := 136) hE dX5_mayStand_132 (by decide) ?_
              refine x_zret hE dX5_mayStand_136 (by rfl) ?_
              refine ⟨rb1 ?_, rfl⟩
              rw [e2 (by assumption)] at *
              unfold okL
              simp only [decide_eq_true_eq]
              omega
          · try simp only [decide_eq_true_eq, decide_eq_false_iff_not] at h16
            refine x_bipush (pc' := 123) hE dX5_mayStand_121 rfl (by decide +kernel) ?_
            refine x_goto (tgt := 128) hE dX5_mayStand_123 (by decide) ?_
            refine x_icmpgt (tgt := 135) (pc' := 131) hE dX5_mayStand_128 (by decide) rfl ⟨by omega, by omega⟩ ⟨by omega, by omega⟩ (fun h18 => ?_) (fun h18 => ?_)
            · refine x_iconst (pc' := 136) hE dX5_mayStand_135 rfl ?_
              refine x_zret hE dX5_mayStand_136 (by rfl) ?_
              refine ⟨rb0 ?_, rfl⟩
              rw [e2 (by assumption)] at *
              unfold okL
              simp only [decide_eq_false_iff_not]
              omega
            · refine x_iconst (pc' := 132) hE dX5_mayStand_131 rfl ?_
              refine x_goto (tgt := 136) hE dX5_mayStand_132 (by decide) ?_
              refine x_zret hE dX5_mayStand_136 (by rfl) ?_
              refine ⟨rb1 ?_, rfl⟩
              rw [e2 (by assumption)] at *
              unfold okL
              simp only [decide_eq_true_eq]
              omega
    · refine x_tabOut (tgt := 137) hE dX5_mayStand_28 ⟨by omega, by omega⟩ (by omega) (by decide) ?_
      refine x_iload_n (pc' := 138) hE dX5_mayStand_137 rfl rfl ?_
      refine x_bipush (pc' := 140) hE dX5_mayStand_138 rfl (by decide +kernel) ?_
      refine x_icmpne (tgt := 147) (pc' := 143) hE dX5_mayStand_140 (by decide) rfl ⟨by omega, by omega⟩ ⟨by omega, by omega⟩ (fun h19 => ?_) (fun h19 => ?_)
      · refine x_iconst (pc' := 148) hE dX5_mayStand_147 rfl ?_
        refine x_zret hE dX5_mayStand_148 (by rfl) ?_
        refine ⟨rb0 ?_, rfl⟩
        unfold okL
        simp only [decide_eq_false_iff_not]
        omega
      · refine x_iconst (pc' := 144) hE dX5_mayStand_143 rfl ?_
        refine x_goto (tgt := 148) hE dX5_mayStand_144 (by decide) ?_
        refine x_zret hE dX5_mayStand_148 (by rfl) ?_
        refine ⟨rb1 ?_, rfl⟩
        unfold okL
        simp only [decide_eq_true_eq]
        omega
  · refine x_iconst (pc' := 7) hE dX5_mayStand_6 rfl ?_
    refine x_zret hE dX5_mayStand_7 (by rfl) ?_
    refine ⟨rb0 ?_, rfl⟩
    unfold okL
    simp only [decide_eq_false_iff_not]
    omega
set_option maxHeartbeats 4000000 in
set_option maxRecDepth 10000 in
theorem c_X5_firstFault (l : Launch) (G : GC) (σ : St) (pg : Int → Int) (n : Int) (hP : RP σ pg n) (hn : 0 ≤ n ∧ n ≤ 24) (hb : ∀ k, 0 ≤ k → k < 24 → 0 ≤ pg k ∧ pg k ≤ 126) : Ct l (YC G) yX5_firstFault (.code yX5_firstFault cX5_firstFault 2 (some .int)) 2 [.ref (aC G 1 0 0)] σ (fun v σ' => v = some (.int (iN (flt pg n))) ∧ σ' = σ) := by
  refine Ct_of (own := RX5) [some (.ref (aC G 1 0 0)), none] rfl rfl (Nat.le_of_ble_eq_true rfl) rfl ?_
  intro E hE hM hl hR
  obtain ⟨p1, p2⟩ := id hP
  have loop : ∀ (n2 : Nat) (k : Int), 0 ≤ k → k ≤ n → n - k = n2 → flt pg n = fltK pg (n - k).toNat k → VV E 2 (AS (YC G)) (Qm (YC G) (fun v σ' => v = some (.int (iN (flt pg n))) ∧ σ' = σ) E) (Rh (YC G) (σ)) 2 [some (.ref (aC G 1 0 0)), some (.int (iN (k)))] [] := by
    intro n2
    induction n2 using Nat.strongRecOn with
    | _ n2 ih =>
    intro k g0 g1 g2 g3
    refine x_iload_n (pc' := 3) hE dX5_firstFault_2 rfl rfl ?_
    refine x_aload_n (pc' := 4) hE dX5_firstFault_3 rfl rfl ?_
    refine g_X5_1 (pc' := 7) hE hM tF_X5_15 dX5_firstFault_4 rfl ?_
    refine x_icmpge (tgt := 26) (pc' := 10) hE dX5_firstFault_7 (by decide) rfl ⟨by omega, by omega⟩ ⟨by omega, by omega⟩ (fun h1 => ?_) (fun h1 => ?_)
    · refine x_aload_n (pc' := 27) hE dX5_firstFault_26 rfl rfl ?_
      refine g_X5_1 (pc' := 30) hE hM tF_X5_15 dX5_firstFault_27 rfl ?_
      refine x_iret hE dX5_firstFault_30 ?_
      refine ⟨ri ?_, rfl⟩
      rw [g3, show (n - k).toNat = 0 by omega]
      show _ = k
      omega
    · refine x_aload_n (pc' := 11) hE dX5_firstFault_10 rfl rfl ?_
      refine x_iload_n (pc' := 12) hE dX5_firstFault_11 rfl rfl ?_
      refine x_cV1 (pc' := 15) hE hM (okC G) hl hR (c_X5_mayStand l G _ _ _ (by assumption) (by omega) (by assumption) _ (by omega) (by omega)) kX5_mayStand tM_X5_19 (rcv_X5 hM) (by decide) dX5_firstFault_12 rfl rfl (Nat.le_of_ble_eq_true rfl) (fun σ2 e2 => ?_)
      replace e2 := e2.symm
      subst e2
      refine x_ifneB (tgt := 20) (pc' := 18) hE dX5_firstFault_15 (by decide) rfl (fun h3 => ?_) (fun h3 => ?_)
      · try simp only [decide_eq_true_eq, decide_eq_false_iff_not] at h3
        refine x_iinc (pc' := 23) hE dX5_firstFault_20 rfl rfl (by decide) rfl rfl ?_
        dsimp only [List.set]
        refine x_goto (tgt := 2) hE dX5_firstFault_23 (by decide) ?_
        refine ih (n2 - 1) (by omega) (k + 1) (by omega) (by omega) (by omega) ?_
        rw [g3, show (n - k).toNat = (n - (k + 1)).toNat + 1 by omega, fltK, if_pos h3]
      · try simp only [decide_eq_true_eq, decide_eq_false_iff_not] at h3
        refine x_iload_n (pc' := 19) hE dX5_firstFault_18 rfl rfl ?_
        refine x_iret hE dX5_firstFault_19 ?_
        refine ⟨ri ?_, rfl⟩
        rw [g3, show (n - k).toNat = (n - (k + 1)).toNat + 1 by omega, fltK, if_neg (by simp [h3])]
  refine x_iconst (pc' := 1) hE dX5_firstFault_0 rfl ?_
  refine x_istore_n (pc' := 2) hE dX5_firstFault_1 rfl (by decide) rfl rfl ?_
  dsimp only [List.set]
  exact loop n.toNat 0 (by omega) (by omega) (by omega) (by unfold flt; rw [Int.sub_zero])
set_option maxHeartbeats 4000000 in
set_option maxRecDepth 10000 in
theorem c_X5_isWhole (l : Launch) (G : GC) (σ : St) (pg : Int → Int) (n : Int) (hP : RP σ pg n) (hn : 0 ≤ n ∧ n ≤ 24) (hb : ∀ k, 0 ≤ k → k < 24 → 0 ≤ pg k ∧ pg k ≤ 126) : Ct l (YC G) yX5_isWhole (.code yX5_isWhole cX5_isWhole 1 (some .boolean)) 3 [.ref (aC G 1 0 0)] σ (fun v σ' => v = some (.int (bI (whl pg n))) ∧ σ' = σ) := by
  refine Ct_of (own := RX5) [some (.ref (aC G 1 0 0))] rfl rfl (Nat.le_of_ble_eq_true rfl) rfl ?_
  intro E hE hM hl hR
  obtain ⟨p1, p2⟩ := id hP
  have hfb := flt_bd pg hn.1
  refine x_aload_n (pc' := 1) hE dX5_isWhole_0 rfl rfl ?_
  refine g_X5_1 (pc' := 4) hE hM tF_X5_15 dX5_isWhole_1 rfl ?_
  refine x_iconst (pc' := 5) hE dX5_isWhole_4 rfl ?_
  refine x_irem (pc' := 6) hE dX5_isWhole_5 rfl (by omega) (by omega) (by omega) (by omega) ?_
  refine x_iconst (pc' := 7) hE dX5_isWhole_6 rfl ?_
  refine x_icmpne (tgt := 25) (pc' := 10) hE dX5_isWhole_7 (by decide) rfl ⟨by omega, by omega⟩ ⟨by omega, by omega⟩ (fun h1 => ?_) (fun h1 => ?_)
  · refine x_iconst (pc' := 26) hE dX5_isWhole_25 rfl ?_
    refine x_zret hE dX5_isWhole_26 (by rfl) ?_
    refine ⟨rb0 ?_, rfl⟩
    unfold whl
    rw [Bool.and_eq_false_iff, decide_eq_false_iff_not, decide_eq_false_iff_not]
    omega
  · refine x_aload_n (pc' := 11) hE dX5_isWhole_10 rfl rfl ?_
    refine x_cV1 (pc' := 14) hE hM (okC G) hl hR (c_X5_firstFault l G _ _ _ (by assumption) (by omega) (by assumption)) kX5_firstFault tM_X5_23 (rcv_X5 hM) (by decide) dX5_isWhole_11 rfl rfl (Nat.le_of_ble_eq_true rfl) (fun σ2 e2 => ?_)
    replace e2 := e2.symm
    subst e2
    refine x_aload_n (pc' := 15) hE dX5_isWhole_14 rfl rfl ?_
    refine g_X5_1 (pc' := 18) hE hM tF_X5_15 dX5_isWhole_15 rfl ?_
    refine x_icmpne (tgt := 25) (pc' := 21) hE dX5_isWhole_18 (by decide) rfl ⟨by omega, by omega⟩ ⟨by omega, by omega⟩ (fun h3 => ?_) (fun h3 => ?_)
    · refine x_iconst (pc' := 26) hE dX5_isWhole_25 rfl ?_
      refine x_zret hE dX5_isWhole_26 (by rfl) ?_
      refine ⟨rb0 ?_, rfl⟩
      unfold whl
      rw [Bool.and_eq_false_iff, decide_eq_false_iff_not, decide_eq_false_iff_not]
      omega
    · refine x_iconst (pc' := 22) hE dX5_isWhole_21 rfl ?_
      refine x_goto (tgt := 26) hE dX5_isWhole_22 (by decide) ?_
      refine x_zret hE dX5_isWhole_26 (by rfl) ?_
      refine ⟨rb1 ?_, rfl⟩
      unfold whl
      rw [Bool.and_eq_true, decide_eq_true_eq, decide_eq_true_eq]
      omega
set_option maxHeartbeats 4000000 in
set_option maxRecDepth 10000 in
theorem c_X1_readFrom (l : Launch) (G : GC) (σ : St) (pg : Int → Int) (n : Int) (hP : RP σ pg n) (hn : 0 ≤ n ∧ n ≤ 24) (hb : ∀ k, 0 ≤ k → k < 24 → 0 ≤ pg k ∧ pg k ≤ 126) (hw : whl pg n = true) (hn2 : n ≤ 23) : Ct l (YC G) yX1_readFrom (.code yX1_readFrom cX1_readFrom 8 none) 2 [.ref (aC G 3 0 0), .ref (aC G 1 0 0)] σ (fun v σ' => v = none ∧ (σ' 3 0 0 1 = (n + 1) / 4 ∧ (∀ d, 0 ≤ d → d < 210 → σ' 4 0 0 d = if isF ((n + 1) / 4) (cdF pg) d then 1 else 0) ∧ FrF σ σ')) := by
  refine Ct_of (own := RX1) [some (.ref (aC G 3 0 0)), some (.ref (aC G 1 0 0)), none, none, none, none, none, none] rfl rfl (Nat.le_of_ble_eq_true rfl) rfl ?_
  intro E hE hM hl hR
  obtain ⟨p1, p2⟩ := id hP
  have outer : ∀ (n1 : Nat) (j : Int) (S : St), FrF σ S → S 3 0 0 1 = (n + 1) / 4 → (∀ d, 0 ≤ d → d < 210 → S 4 0 0 d = if anyU (mtF pg d) j.toNat = true then 1 else 0) → 0 ≤ j → j ≤ (n + 1) / 4 → (n + 1) / 4 - j = n1 → VV E 8 (AS (YC G)) (Qm (YC G) (fun v σ' => v = none ∧ (σ' 3 0 0 1 = (n + 1) / 4 ∧ (∀ d, 0 ≤ d → d < 210 → σ' 4 0 0 d = if isF ((n + 1) / 4) (cdF pg) d then 1 else 0) ∧ FrF σ σ')) E) (Rh (YC G) (S)) 36 [some (.ref (aC G 3 0 0)), some (.ref (aC G 1 0 0)), some (.int (iN (j))), none, none, none, none, none] [] := by
    intro n1
    induction n1 using Nat.strongRecOn with
    | _ n1 ih =>
    intro j S hf hN hm g0 g1 g2
    have hPS := hf.rp hP
    obtain ⟨s1, s2⟩ := id hPS
    have inner : ∀ (n2 : Nat) (y : Int) (U : St), j < (n + 1) / 4 → FrF σ U → U 3 0 0 1 = (n + 1) / 4 → (∀ d, 0 ≤ d → d < 210 → U 4 0 0 d = if mrk pg j y d = true then 1 else 0) → 0 ≤ y → y ≤ 7 → 7 - y = n2 → VV E 8 (AS (YC G)) (Qm (YC G) (fun v σ' => v = none ∧ (σ' 3 0 0 1 = (n + 1) / 4 ∧ (∀ d, 0 ≤ d → d < 210 → σ' 4 0 0 d = if isF ((n + 1) / 4) (cdF pg) d then 1 else 0) ∧ FrF σ σ')) E) (Rh (YC G) (U)) 69 [some (.ref (aC G 3 0 0)), some (.ref (aC G 1 0 0)), some (.int (iN j)), some (.int (iN (4 * j))), some (.int (iN (pg (4 * j + 1) - 48))), some (.int (iN (pg (4 * j + 2) - 48))), some (.int (iN (30 * (y)))), none] [] := by
      intro n2
      induction n2 using Nat.strongRecOn with
      | _ n2 ih2 =>
      intro y U j1 hfU hNU hmU y0 y1 y2
      have hPU := hfU.rp hP
      have hfe := fe_ok hw hn.1 g0 j1
      have hwi := wi_bd y hw hn.1 g0 j1
      refine x_iload (pc' := 71) hE dX1_readFrom_69 rfl rfl ?_
      refine x_sipush (pc' := 74) hE dX1_readFrom_71 rfl (by decide +kernel) ?_
      refine x_icmpge (tgt := 124) (pc' := 77) hE dX1_readFrom_74 (by decide) rfl ⟨by omega, by omega⟩ ⟨by omega, by omega⟩ (fun h1 => ?_) (fun h1 => ?_)
      · refine x_iinc (pc' := 127) hE dX1_readFrom_124 rfl rfl (by decide) rfl rfl ?_
        dsimp only [List.set]
        refine x_goto (tgt := 36) hE dX1_readFrom_127 (by decide) ?_
        have e7 : y = 7 := by omega
        subst e7
        refine x_lvf (lv' := [some (.ref (aC G 3 0 0)), some (.ref (aC G 1 0 0)), some (.int (iN (j + 1))), none, none, none, none, none]) ⟨Or.inr rfl, Or.inr rfl, Or.inr rfl, Or.inl rfl, Or.inl rfl, Or.inl rfl, Or.inl rfl, Or.inl rfl, trivial⟩ (ih (n1 - 1) (by omega) (j + 1) U hfU hNU (fun d d0 d1 => ?_) (by omega) (by omega) (by omega))
        rw [← mrk_7 pg g0 d1]
        exact hmU d d0 d1
      · refine x_aload_n (pc' := 78) hE dX1_readFrom_77 rfl rfl ?_
        refine x_iload_n (pc' := 79) hE dX1_readFrom_78 rfl rfl ?_
        refine x_cV1 (pc' := 82) hE hM (okC G) hl hR (c_X5_staysAt l G _ _ _ (by assumption) (by omega) (by assumption) _ (by omega) (by omega)) kX5_staysAt tM_X1_28 (rcv_X5 hM) (by decide) dX1_readFrom_79 rfl rfl (Nat.le_of_ble_eq_true rfl) (fun σ2 e2 => ?_)
        replace e2 := e2.symm
        subst e2
        refine x_ifeqB (tgt := 96) (pc' := 85) hE dX1_readFrom_82 (by decide) rfl (fun h3 => ?_) (fun h3 => ?_)
        · try simp only [decide_eq_true_eq, decide_eq_false_iff_not] at h3
          refine x_iload (pc' := 98) hE dX1_readFrom_96 rfl rfl ?_
          refine x_iload (pc' := 100) hE dX1_readFrom_98 rfl rfl ?_
          refine x_iload (pc' := 102) hE dX1_readFrom_100 rfl rfl ?_
          refine x_cS1 (pc' := 105) hE hM (okC G) hl hR (c_X1_placeOfWeekday l G _ _ _ _ (by omega) (by omega)) kX1_placeOfWeekday tM_X1_32 (by decide) dX1_readFrom_102 rfl rfl (Nat.le_of_ble_eq_true rfl) (fun σ4 e4 => ?_)
          replace e4 := e4.symm
          subst e4
          refine x_st (st' := [.int (iN (wiF pg j y))]) (by rw [show wiF pg j y = _ from if_neg h3]) ?_
          refine x_istore (pc' := 107) hE dX1_readFrom_105 rfl (by decide) rfl rfl ?_
          dsimp only [List.set]
          refine x_aload_n (pc' := 108) hE dX1_readFrom_107 rfl rfl ?_
          refine g_X1_0 (pc' := 111) hE hM tF_X1_9 dX1_readFrom_108 rfl ?_
          refine x_iload (pc' := 113) hE dX1_readFrom_111 rfl rfl ?_
          refine x_iload (pc' := 115) hE dX1_readFrom_113 rfl rfl ?_
          refine x_iadd (pc' := 116) hE dX1_readFrom_115 rfl ?_
          refine x_iconst (pc' := 117) hE dX1_readFrom_116 rfl ?_
          refine sC_4 (pc' := 118) hE hM (by omega) (by omega) (by decide +kernel) dX1_readFrom_117 rfl ?_
          refine x_iinc (pc' := 121) hE dX1_readFrom_118 rfl rfl (by decide) rfl rfl ?_
          dsimp only [List.set]
          refine x_goto (tgt := 69) hE dX1_readFrom_121 (by decide) ?_
          refine x_lvf (lv' := [some (.ref (aC G 3 0 0)), some (.ref (aC G 1 0 0)), some (.int (iN j)), some (.int (iN (4 * j))), some (.int (iN (pg (4 * j + 1) - 48))), some (.int (iN (pg (4 * j + 2) - 48))), some (.int (iN (30 * (y + 1)))), none]) ⟨Or.inr rfl, Or.inr rfl, Or.inr rfl, Or.inr rfl, Or.inr rfl, Or.inr rfl, Or.inr (by rw [show 30 * y + 30 = 30 * (y + 1) by omega]), Or.inl rfl, trivial⟩ (ih2 (n2 - 1) (by omega) (y + 1) _ j1 (hfU.trans (FrF_up U _ _ (Or.inr rfl))) (by rw [up_n (by omega)]; exact hNU) (fun d d0 d1 => ?_) (by omega) (by omega) (by omega))
          rw [mrk_s hw hn.1 g0 j1 y0 d0]
          by_cases e : d = 30 * y + wiF pg j y
          · rw [e, up_s, decide_eq_true rfl, Bool.or_true]
            rfl
          · rw [up_n (by omega), decide_eq_false e, Bool.or_false]
            exact hmU d d0 d1
        · try simp only [decide_eq_true_eq, decide_eq_false_iff_not] at h3
          refine x_bipush (pc' := 87) hE dX1_readFrom_85 rfl (by decide +kernel) ?_
          refine x_iload (pc' := 89) hE dX1_readFrom_87 rfl rfl ?_
          refine x_imul (pc' := 90) hE dX1_readFrom_89 rfl ?_
          refine x_iload (pc' := 92) hE dX1_readFrom_90 rfl rfl ?_
          refine x_iadd (pc' := 93) hE dX1_readFrom_92 rfl ?_
          refine x_goto (tgt := 105) hE dX1_readFrom_93 (by decide) ?_
          refine x_st (st' := [.int (iN (wiF pg j y))]) (by rw [show wiF pg j y = _ from if_pos h3]) ?_
          refine x_istore (pc' := 107) hE dX1_readFrom_105 rfl (by decide) rfl rfl ?_
          dsimp only [List.set]
          refine x_aload_n (pc' := 108) hE dX1_readFrom_107 rfl rfl ?_
          refine g_X1_0 (pc' := 111) hE hM tF_X1_9 dX1_readFrom_108 rfl ?_
          refine x_iload (pc' := 113) hE dX1_readFrom_111 rfl rfl ?_
          refine x_iload (pc' := 115) hE dX1_readFrom_113 rfl rfl ?_
          refine x_iadd (pc' := 116) hE dX1_readFrom_115 rfl ?_
          refine x_iconst (pc' := 117) hE dX1_readFrom_116 rfl ?_
          refine sC_4 (pc' := 118) hE hM (by omega) (by omega) (by decide +kernel) dX1_readFrom_117 rfl ?_
          refine x_iinc (pc' := 121) hE dX1_readFrom_118 rfl rfl (by decide) rfl rfl ?_
          dsimp only [List.set]
          refine x_goto (tgt := 69) hE dX1_readFrom_121 (by decide) ?_
          refine x_lvf (lv' := [some (.ref (aC G 3 0 0)), some (.ref (aC G 1 0 0)), some (.int (iN j)), some (.int (iN (4 * j))), some (.int (iN (pg (4 * j + 1) - 48))), some (.int (iN (pg (4 * j + 2) - 48))), some (.int (iN (30 * (y + 1)))), none]) ⟨Or.inr rfl, Or.inr rfl, Or.inr rfl, Or.inr rfl, Or.inr rfl, Or.inr rfl, Or.inr (by rw [show 30 * y + 30 = 30 * (y + 1) by omega]), Or.inl rfl, trivial⟩ (ih2 (n2 - 1) (by omega) (y + 1) _ j1 (hfU.trans (FrF_up U _ _ (Or.inr rfl))) (by rw [up_n (by omega)]; exact hNU) (fun d d0 d1 => ?_) (by omega) (by omega) (by omega))
          rw [mrk_s hw hn.1 g0 j1 y0 d0]
          by_cases e : d = 30 * y + wiF pg j y
          · rw [e, up_s, decide_eq_true rfl, Bool.or_true]
            rfl
          · rw [up_n (by omega), decide_eq_false e, Bool.or_false]
            exact hmU d d0 d1
    refine x_iload_n (pc' := 37) hE dX1_readFrom_36 rfl rfl ?_
    refine x_aload_n (pc' := 38) hE dX1_readFrom_37 rfl rfl ?_
    refine g_X1_1 (pc' := 41) hE hM tF_X1_21 dX1_readFrom_38 rfl ?_
    refine x_icmpge (tgt := 130) (pc' := 44) hE dX1_readFrom_41 (by decide) rfl ⟨by omega, by omega⟩ ⟨by omega, by omega⟩ (fun h5 => ?_) (fun h5 => ?_)
    · refine x_vret hE dX1_readFrom_130 ?_
      have e : j = (n + 1) / 4 := by omega
      subst e
      exact ⟨rfl, hN, fun d d0 d1 => by rw [isF_mt]; exact hm d d0 d1, hf⟩
    · refine x_iconst (pc' := 45) hE dX1_readFrom_44 rfl ?_
      refine x_iload_n (pc' := 46) hE dX1_readFrom_45 rfl rfl ?_
      refine x_imul (pc' := 47) hE dX1_readFrom_46 rfl ?_
      refine x_istore_n (pc' := 48) hE dX1_readFrom_47 rfl (by decide) rfl rfl ?_
      dsimp only [List.set]
      refine x_aload_n (pc' := 49) hE dX1_readFrom_48 rfl rfl ?_
      refine x_iload_n (pc' := 50) hE dX1_readFrom_49 rfl rfl ?_
      refine x_iconst (pc' := 51) hE dX1_readFrom_50 rfl ?_
      refine x_iadd (pc' := 52) hE dX1_readFrom_51 rfl ?_
      refine x_cV1 (pc' := 55) hE hM (okC G) hl hR (c_X5_digitAt l G _ _ _ (by assumption) (by omega) (by assumption) _ (by omega) (by omega)) kX5_digitAt tM_X1_24 (rcv_X5 hM) (by decide) dX1_readFrom_52 rfl rfl (Nat.le_of_ble_eq_true rfl) (fun σ6 e6 => ?_)
      replace e6 := e6.symm
      subst e6
      refine x_istore (pc' := 57) hE dX1_readFrom_55 rfl (by decide) rfl rfl ?_
      dsimp only [List.set]
      refine x_aload_n (pc' := 58) hE dX1_readFrom_57 rfl rfl ?_
      refine x_iload_n (pc' := 59) hE dX1_readFrom_58 rfl rfl ?_
      refine x_iconst (pc' := 60) hE dX1_readFrom_59 rfl ?_
      refine x_iadd (pc' := 61) hE dX1_readFrom_60 rfl ?_
      refine x_cV1 (pc' := 64) hE hM (okC G) hl hR (c_X5_digitAt l G _ _ _ (by assumption) (by omega) (by assumption) _ (by omega) (by omega)) kX5_digitAt tM_X1_24 (rcv_X5 hM) (by decide) dX1_readFrom_61 rfl rfl (Nat.le_of_ble_eq_true rfl) (fun σ7 e7 => ?_)
      replace e7 := e7.symm
      subst e7
      refine x_istore (pc' := 66) hE dX1_readFrom_64 rfl (by decide) rfl rfl ?_
      dsimp only [List.set]
      refine x_iconst (pc' := 67) hE dX1_readFrom_66 rfl ?_
      refine x_istore (pc' := 69) hE dX1_readFrom_67 rfl (by decide) rfl rfl ?_
      dsimp only [List.set]
      exact inner 7 0 S (by omega) hf hN (fun d d0 d1 => by rw [mrk_0 pg d0]; exact hm d d0 d1) (by omega) (by omega) (by omega)
  have wipe : ∀ (n1 : Nat) (k : Int) (S : St), FrF σ S → S 3 0 0 1 = (n + 1) / 4 → (∀ d, 0 ≤ d → d < k → S 4 0 0 d = 0) → 0 ≤ k → k ≤ 210 → 210 - k = n1 → VV E 8 (AS (YC G)) (Qm (YC G) (fun v σ' => v = none ∧ (σ' 3 0 0 1 = (n + 1) / 4 ∧ (∀ d, 0 ≤ d → d < 210 → σ' 4 0 0 d = if isF ((n + 1) / 4) (cdF pg) d then 1 else 0) ∧ FrF σ σ')) E) (Rh (YC G) (S)) 14 [some (.ref (aC G 3 0 0)), some (.ref (aC G 1 0 0)), some (.int (iN (k))), none, none, none, none, none] [] := by
    intro n1
    induction n1 using Nat.strongRecOn with
    | _ n1 ih =>
    intro k S hf hN hm g0 g1 g2
    refine x_iload_n (pc' := 15) hE dX1_readFrom_14 rfl rfl ?_
    refine x_sipush (pc' := 18) hE dX1_readFrom_15 rfl (by decide +kernel) ?_
    refine x_icmpge (tgt := 34) (pc' := 21) hE dX1_readFrom_18 (by decide) rfl ⟨by omega, by omega⟩ ⟨by omega, by omega⟩ (fun h8 => ?_) (fun h8 => ?_)
    · refine x_iconst (pc' := 35) hE dX1_readFrom_34 rfl ?_
      refine x_istore_n (pc' := 36) hE dX1_readFrom_35 rfl (by decide) rfl rfl ?_
      dsimp only [List.set]
      have e : k = 210 := by omega
      subst e
      exact outer ((n + 1) / 4).toNat 0 S hf hN (fun d d0 d1 => hm d d0 d1) (by omega) (by omega) (by omega)
    · refine x_aload_n (pc' := 22) hE dX1_readFrom_21 rfl rfl ?_
      refine g_X1_0 (pc' := 25) hE hM tF_X1_9 dX1_readFrom_22 rfl ?_
      refine x_iload_n (pc' := 26) hE dX1_readFrom_25 rfl rfl ?_
      refine x_iconst (pc' := 27) hE dX1_readFrom_26 rfl ?_
      refine sC_4 (pc' := 28) hE hM (by omega) (by omega) (by decide +kernel) dX1_readFrom_27 rfl ?_
      refine x_iinc (pc' := 31) hE dX1_readFrom_28 rfl rfl (by decide) rfl rfl ?_
      dsimp only [List.set]
      refine x_goto (tgt := 14) hE dX1_readFrom_31 (by decide) ?_
      refine ih (n1 - 1) (by omega) (k + 1) _ (hf.trans (FrF_up S _ _ (Or.inr rfl))) (by rw [up_n (by omega)]; exact hN) (fun d d0 d1 => ?_) (by omega) (by omega) (by omega)
      by_cases e : d = k
      · rw [e, up_s]
      · rw [up_n (by omega)]
        exact hm d d0 (by omega)
  refine x_aload_n (pc' := 1) hE dX1_readFrom_0 rfl rfl ?_
  refine x_aload_n (pc' := 2) hE dX1_readFrom_1 rfl rfl ?_
  refine gN_X5_1 (pc' := 5) hE hM (fun _ h => nF_X1_15 h) dX1_readFrom_2 rfl ?_
  refine x_iconst (pc' := 6) hE dX1_readFrom_5 rfl ?_
  refine x_iadd (pc' := 7) hE dX1_readFrom_6 rfl ?_
  refine x_iconst (pc' := 8) hE dX1_readFrom_7 rfl ?_
  refine x_idiv (pc' := 9) hE dX1_readFrom_8 rfl (by omega) (by omega) (by omega) (by omega) ?_
  rw [p1]
  refine p_X1_1 (pc' := 12) hE hM tF_X1_21 dX1_readFrom_9 rfl ?_
  refine x_iconst (pc' := 13) hE dX1_readFrom_12 rfl ?_
  refine x_istore_n (pc' := 14) hE dX1_readFrom_13 rfl (by decide) rfl rfl ?_
  dsimp only [List.set]
  exact wipe 210 0 _ (FrF_up σ _ _ (Or.inl rfl)) (up_s _ _ _ _ _ _) (fun d d0 d1 => by omega) (by omega) (by omega) (by omega)
