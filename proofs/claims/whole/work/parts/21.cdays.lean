set_option maxHeartbeats 4000000 in
set_option maxRecDepth 10000 in
theorem c_X8_nameOfDay (l : Launch) (G : GC) (σ : St) (d : Int) (h0 : 0 ≤ d) (h1 : d < 100000000) : Ct l (YC G) yX8_nameOfDay (.code yX8_nameOfDay cX8_nameOfDay 1 (some .int)) 0 [.int (iN d)] σ (fun v σ' => v = some (.int (iN (d % 30 % 10))) ∧ σ' = σ) := by
  refine Ct_of (own := RX8) [some (.int (iN d))] rfl rfl (Nat.le_of_ble_eq_true rfl) rfl ?_
  intro E hE hM hl hR
  refine x_iload_n (pc' := 1) hE dX8_nameOfDay_0 rfl rfl ?_
  refine x_bipush (pc' := 3) hE dX8_nameOfDay_1 rfl (by decide +kernel) ?_
  refine x_irem (pc' := 4) hE dX8_nameOfDay_3 rfl (by omega) (by omega) (by omega) (by omega) ?_
  refine x_bipush (pc' := 6) hE dX8_nameOfDay_4 rfl (by decide +kernel) ?_
  refine x_irem (pc' := 7) hE dX8_nameOfDay_6 rfl (by omega) (by omega) (by omega) (by omega) ?_
  refine x_iret hE dX8_nameOfDay_7 ?_
  exact ⟨rfl, rfl⟩
set_option maxHeartbeats 4000000 in
set_option maxRecDepth 10000 in
theorem c_X7_readBy (l : Launch) (G : GC) (σ : St) (w : Nat) (hw3 : w < 3) (W : Wd) (D : Int) (hRW : RW σ w W) (hWo : WOk D W) (hD : D ≤ 1000000) (p : Int) (p0 : 0 ≤ p) (p1 : p < W 0 0) : Ct l (YC G) yX7_readBy (.code yX7_readBy cX7_readBy 2 (some .int)) 1 [.ref (aC G 6 w 0), .ref (aC G 11 w p)] σ (fun v σ' => v = some (.int (iN (rdB (W 1 p) (W 7 (W 2 p)) (W 3 p) (W 0 2)))) ∧ σ' = σ) := by
  refine Ct_of (own := RX7) [some (.ref (aC G 6 w 0)), some (.ref (aC G 11 w p))] rfl rfl (Nat.le_of_ble_eq_true rfl) rfl ?_
  intro E hE hM hl hR
  obtain ⟨r1, r2, r3, r4, r5, r6, r7⟩ := id hRW
  obtain ⟨o1, o2, o3, o4, o5, o6⟩ := id hWo
  have q1 := r5 p p0 p1
  have q2 := o4 p p0 (by omega)
  have q3 := o6 (W 2 p) (by omega) (by omega)
  have q4 := r7 (W 2 p) (by omega) (by omega)
  refine x_aload_n (pc' := 1) hE dX7_readBy_0 rfl rfl ?_
  refine gN_X4_0 (pc' := 4) (by omega) (by omega) (by omega) hE hM (fun _ h => nF_X7_40 h) dX7_readBy_1 rfl ?_
  refine x_aload_n (pc' := 5) hE dX7_readBy_4 rfl rfl ?_
  refine g_X7_6 (pc' := 8) (by omega) hE hM tF_X7_70 dX7_readBy_5 rfl ?_
  refine x_aload_n (pc' := 9) hE dX7_readBy_8 rfl rfl ?_
  refine g_X7_2 (pc' := 12) (by omega) hE hM tF_X7_23 dX7_readBy_9 rfl ?_
  refine x_aload_n (pc' := 13) hE dX7_readBy_12 rfl rfl ?_
  refine gN_X4_1 (pc' := 16) (by omega) (by omega) (by omega) hE hM (fun _ h => nF_X7_44 h) dX7_readBy_13 rfl ?_
  refine aC_9 (pc' := 17) (by omega) hE hM (by omega) (by omega) dX7_readBy_16 rfl ?_
  refine x_aload_n (pc' := 18) hE dX7_readBy_17 rfl rfl ?_
  refine gN_X4_2 (pc' := 21) (by omega) (by omega) (by omega) hE hM (fun _ h => nF_X7_47 h) dX7_readBy_18 rfl ?_
  refine x_cV1 (pc' := 24) hE hM (okC G) hl hR (c_X3_reads l G _ _ _ _ _ (by omega) (by omega)) kX3_reads tM_X7_96 (rcvK (by omega) (by omega) hM) (by decide) dX7_readBy_21 rfl rfl (Nat.le_of_ble_eq_true rfl) (fun σ1 e1 => ?_)
  replace e1 := e1.symm
  subst e1
  refine x_iret hE dX7_readBy_24 ?_
  refine ⟨ri ?_, rfl⟩
  rw [q1.1, q1.2.1, q4, q1.2.2, r3]
set_option maxHeartbeats 4000000 in
set_option maxRecDepth 10000 in
theorem c_X7_firstIn (l : Launch) (G : GC) (σ : St) (w : Nat) (hw3 : w < 3) (W : Wd) (D : Int) (hRW : RW σ w W) (hWo : WOk D W) (hD : D ≤ 1000000) (c nm : Int) (c0 : -10 ≤ c) (c1 : c ≤ 10) (e0 : 0 ≤ nm) (e1 : nm ≤ 9) : Ct l (YC G) yX7_firstIn (.code yX7_firstIn cX7_firstIn 5 (some .int)) 1 [.ref (aC G 6 w 0), .int (iN c), .int (iN nm)] σ (fun v σ' => v = some (.int (iN (pIn W c nm))) ∧ σ' = σ) := by
  refine Ct_of (own := RX7) [some (.ref (aC G 6 w 0)), some (.int (iN c)), some (.int (iN nm)), none, none] rfl rfl (Nat.le_of_ble_eq_true rfl) rfl ?_
  intro E hE hM hl hR
  obtain ⟨r1, r2, r3, r4, r5, r6, r7⟩ := id hRW
  obtain ⟨o1, o2, o3, o4, o5, o6⟩ := id hWo
  have loop : ∀ (n : Nat) (k : Int), 0 ≤ k → k ≤ W 0 1 → W 0 1 - k = n → pIn W c nm = lst (fun f => decide (W 5 f = c) && decide (W 6 f = -1) && decide (W 4 f ≠ nm)) (W 0 1 - k).toNat k → VV E 5 (AS (YC G)) (Qm (YC G) (fun v σ' => v = some (.int (iN (pIn W c nm))) ∧ σ' = σ) E) (Rh (YC G) (σ)) 2 [some (.ref (aC G 6 w 0)), some (.int (iN c)), some (.int (iN nm)), some (.int (iN (k))), none] [] := by
    intro n
    induction n using Nat.strongRecOn with
    | _ n ih =>
    intro k g0 g1 g2 g3
    refine x_iload_n (pc' := 3) hE dX7_firstIn_2 rfl rfl ?_
    refine x_aload_n (pc' := 4) hE dX7_firstIn_3 rfl rfl ?_
    refine g_X7_5 (pc' := 7) (by omega) hE hM tF_X7_54 dX7_firstIn_4 rfl ?_
    refine x_icmpge (tgt := 52) (pc' := 10) hE dX7_firstIn_7 (by decide) rfl ⟨by omega, by omega⟩ ⟨by omega, by omega⟩ (fun h1 => ?_) (fun h1 => ?_)
    · refine x_iconst (pc' := 53) hE dX7_firstIn_52 rfl ?_
      refine x_iret hE dX7_firstIn_53 ?_
      refine ⟨ri ?_, rfl⟩
      rw [g3, show (W 0 1 - k).toNat = 0 by omega]
      rfl
    · have q1 := r6 k (by omega) (by omega)
      have q2 := o5 k (by omega) (by omega)
      have e8 : (W 0 1 - k).toNat = (W 0 1 - (k + 1)).toNat + 1 := by omega
      refine x_aload_n (pc' := 11) hE dX7_firstIn_10 rfl rfl ?_
      refine g_X7_1 (pc' := 14) (by omega) hE hM tF_X7_19 dX7_firstIn_11 rfl ?_
      refine x_iload_n (pc' := 15) hE dX7_firstIn_14 rfl rfl ?_
      refine aC_8 (pc' := 16) (by omega) hE hM (by omega) (by omega) dX7_firstIn_15 rfl ?_
      refine x_astore (pc' := 18) hE dX7_firstIn_16 rfl (by decide) rfl rfl ?_
      dsimp only [List.set]
      refine x_aload_n (pc' := 19) hE dX7_firstIn_18 rfl rfl ?_
      refine x_iload_n (pc' := 20) hE dX7_firstIn_19 rfl rfl ?_
      refine x_cV1 (pc' := 23) hE hM (okC G) hl hR (c_X7_isEaten l G _ _ (by omega) _ _ (by assumption) (by assumption) (by omega) _ (by omega) (by omega)) kX7_isEaten tM_X7_84 (rcv_X7 (by omega) hM) (by decide) dX7_firstIn_20 rfl rfl (Nat.le_of_ble_eq_true rfl) (fun σ2 e2 => ?_)
      replace e2 := e2.symm
      subst e2
      refine x_ifneB (tgt := 46) (pc' := 26) hE dX7_firstIn_23 (by decide) rfl (fun h3 => ?_) (fun h3 => ?_)
      · try simp only [decide_eq_true_eq, decide_eq_false_iff_not] at h3
        refine x_iinc (pc' := 49) hE dX7_firstIn_46 rfl rfl (by decide) rfl rfl ?_
        dsimp only [List.set]
        refine x_goto (tgt := 2) hE dX7_firstIn_49 (by decide) ?_
        have q4 : W 6 k ≠ -1 := (eaQ_t h3).2
        refine x_lvf (lv' := [some (.ref (aC G 6 w 0)), some (.int (iN c)), some (.int (iN nm)), some (.int (iN (k + 1))), none]) ⟨Or.inr rfl, Or.inr rfl, Or.inr rfl, Or.inr rfl, Or.inl rfl, trivial⟩ (ih (n - 1) (by omega) (k + 1) (by omega) (by omega) (by omega) ?_)
        rw [g3, e8, lst_s, if_neg (by simp; omega)]
      · try simp only [decide_eq_true_eq, decide_eq_false_iff_not] at h3
        refine x_aload (pc' := 28) hE dX7_firstIn_26 rfl rfl ?_
        refine gN_X2_1 (pc' := 31) (by omega) (by omega) (by omega) hE hM (fun _ h => nF_X7_117 h) dX7_firstIn_28 rfl ?_
        refine x_iload_n (pc' := 32) hE dX7_firstIn_31 rfl rfl ?_
        refine x_icmpne (tgt := 46) (pc' := 35) hE dX7_firstIn_32 (by decide) rfl ⟨by omega, by omega⟩ ⟨by omega, by omega⟩ (fun h4 => ?_) (fun h4 => ?_)
        · refine x_iinc (pc' := 49) hE dX7_firstIn_46 rfl rfl (by decide) rfl rfl ?_
          dsimp only [List.set]
          refine x_goto (tgt := 2) hE dX7_firstIn_49 (by decide) ?_
          have q4 : W 6 k = -1 := eaQ_f h3 (by omega)
          refine x_lvf (lv' := [some (.ref (aC G 6 w 0)), some (.int (iN c)), some (.int (iN nm)), some (.int (iN (k + 1))), none]) ⟨Or.inr rfl, Or.inr rfl, Or.inr rfl, Or.inr rfl, Or.inl rfl, trivial⟩ (ih (n - 1) (by omega) (k + 1) (by omega) (by omega) (by omega) ?_)
          rw [g3, e8, lst_s, if_neg (by simp; omega)]
        · refine x_aload (pc' := 37) hE dX7_firstIn_35 rfl rfl ?_
          refine gN_X2_0 (pc' := 40) (by omega) (by omega) (by omega) hE hM (fun _ h => nF_X7_118 h) dX7_firstIn_37 rfl ?_
          refine x_iload_n (pc' := 41) hE dX7_firstIn_40 rfl rfl ?_
          refine x_icmpeq (tgt := 46) (pc' := 44) hE dX7_firstIn_41 (by decide) rfl ⟨by omega, by omega⟩ ⟨by omega, by omega⟩ (fun h5 => ?_) (fun h5 => ?_)
          · refine x_iinc (pc' := 49) hE dX7_firstIn_46 rfl rfl (by decide) rfl rfl ?_
            dsimp only [List.set]
            refine x_goto (tgt := 2) hE dX7_firstIn_49 (by decide) ?_
            have q4 : W 6 k = -1 := eaQ_f h3 (by omega)
            refine x_lvf (lv' := [some (.ref (aC G 6 w 0)), some (.int (iN c)), some (.int (iN nm)), some (.int (iN (k + 1))), none]) ⟨Or.inr rfl, Or.inr rfl, Or.inr rfl, Or.inr rfl, Or.inl rfl, trivial⟩ (ih (n - 1) (by omega) (k + 1) (by omega) (by omega) (by omega) ?_)
            rw [g3, e8, lst_s, if_neg (by simp; omega)]
          · refine x_iload_n (pc' := 45) hE dX7_firstIn_44 rfl rfl ?_
            refine x_iret hE dX7_firstIn_45 ?_
            have q4 := eaQ_f h3 (by omega)
            refine ⟨ri ?_, rfl⟩
            rw [g3, e8, lst_s, if_pos (by simp; omega)]
  refine x_iconst (pc' := 1) hE dX7_firstIn_0 rfl ?_
  refine x_istore_n (pc' := 2) hE dX7_firstIn_1 rfl (by decide) rfl rfl ?_
  dsimp only [List.set]
  exact loop (W 0 1).toNat 0 (by omega) (by omega) (by omega) (by unfold pIn; rw [Int.sub_zero])
set_option maxHeartbeats 4000000 in
set_option maxRecDepth 10000 in
theorem c_X7_preyOf (l : Launch) (G : GC) (σ : St) (w : Nat) (hw3 : w < 3) (W : Wd) (D : Int) (hRW : RW σ w W) (hWo : WOk D W) (hD : D ≤ 1000000) (F : Int → Bool) (hRF : RF σ F) (p : Int) (p0 : 0 ≤ p) (p1 : p < W 0 0) : Ct l (YC G) yX7_preyOf (.code yX7_preyOf cX7_preyOf 6 (some .int)) 2 [.ref (aC G 6 w 0), .ref (aC G 11 w p), .ref (aC G 3 0 0)] σ (fun v σ' => v = some (.int (iN (prey F W p (W 0 2)))) ∧ σ' = σ) := by
  refine Ct_of (own := RX7) [some (.ref (aC G 6 w 0)), some (.ref (aC G 11 w p)), some (.ref (aC G 3 0 0)), none, none, none] rfl rfl (Nat.le_of_ble_eq_true rfl) rfl ?_
  intro E hE hM hl hR
  obtain ⟨r1, r2, r3, r4, r5, r6, r7⟩ := id hRW
  obtain ⟨o1, o2, o3, o4, o5, o6⟩ := id hWo
  have q1 := r5 p p0 p1
  have q2 := o4 p p0 (by omega)
  have q3 := o6 (W 2 p) (by omega) (by omega)
  have q4 := r7 (W 2 p) (by omega) (by omega)
  have q5 := rdB_bd (k := W 1 p) (f := W 7 (W 2 p)) (g := W 3 p) (d := W 0 2) (by omega) (by omega) (by omega)
  have ha := pIn_bd hWo (W 2 p) (rdB (W 1 p) (W 7 (W 2 p)) (W 3 p) (W 0 2) % 30 % 10)
  have hb := pIn_bd hWo (W 2 p - 1) (rdB (W 1 p) (W 7 (W 2 p)) (W 3 p) (W 0 2) % 30 % 10)
  have hc := pIn_bd hWo (W 2 p + 1) (rdB (W 1 p) (W 7 (W 2 p)) (W 3 p) (W 0 2) % 30 % 10)
  refine x_aload_n (pc' := 1) hE dX7_preyOf_0 rfl rfl ?_
  refine x_aload_n (pc' := 2) hE dX7_preyOf_1 rfl rfl ?_
  refine x_cV1 (pc' := 5) hE hM (okC G) hl hR (c_X7_readBy l G _ _ (by omega) _ _ (by assumption) (by assumption) (by omega) _ (by omega) (by omega)) kX7_readBy tM_X7_102 (rcv_X7 (by omega) hM) (by decide) dX7_preyOf_2 rfl rfl (Nat.le_of_ble_eq_true rfl) (fun σ1 e1 => ?_)
  replace e1 := e1.symm
  subst e1
  refine x_istore_n (pc' := 6) hE dX7_preyOf_5 rfl (by decide) rfl rfl ?_
  dsimp only [List.set]
  refine x_aload_n (pc' := 7) hE dX7_preyOf_6 rfl rfl ?_
  refine gN_X4_0 (pc' := 10) (by omega) (by omega) (by omega) hE hM (fun _ h => nF_X7_40 h) dX7_preyOf_7 rfl ?_
  refine x_iload_n (pc' := 11) hE dX7_preyOf_10 rfl rfl ?_
  refine x_aload_n (pc' := 12) hE dX7_preyOf_11 rfl rfl ?_
  refine x_cV1 (pc' := 15) hE hM (okC G) hl hR (c_X3_fastsOn l G _ _ (by assumption) _ _ (by omega) (by omega) (by omega) (by omega)) kX3_fastsOn tM_X7_106 (rcvK (by omega) (by omega) hM) (by decide) dX7_preyOf_12 rfl rfl (Nat.le_of_ble_eq_true rfl) (fun σ2 e2 => ?_)
  replace e2 := e2.symm
  subst e2
  rw [q1.1]
  refine x_ifeqB (tgt := 20) (pc' := 18) hE dX7_preyOf_15 (by decide) rfl (fun h3 => ?_) (fun h3 => ?_)
  · try simp only [decide_eq_true_eq, decide_eq_false_iff_not] at h3
    refine x_iload_n (pc' := 21) hE dX7_preyOf_20 rfl rfl ?_
    refine x_cSN1 (pc' := 24) hE hM (okC G) hl hR (c_X8_nameOfDay l G _ _ (by omega) (by omega)) kX8_nameOfDay (fun _ h => nM_X7_110 h) (by decide) dX7_preyOf_21 rfl rfl (Nat.le_of_ble_eq_true rfl) (fun σ4 e4 => ?_)
    replace e4 := e4.symm
    subst e4
    refine x_istore (pc' := 26) hE dX7_preyOf_24 rfl (by decide) rfl rfl ?_
    dsimp only [List.set]
    refine x_aload_n (pc' := 27) hE dX7_preyOf_26 rfl rfl ?_
    refine x_aload_n (pc' := 28) hE dX7_preyOf_27 rfl rfl ?_
    refine gN_X4_1 (pc' := 31) (by omega) (by omega) (by omega) hE hM (fun _ h => nF_X7_44 h) dX7_preyOf_28 rfl ?_
    refine x_iload (pc' := 33) hE dX7_preyOf_31 rfl rfl ?_
    refine x_cV1 (pc' := 36) hE hM (okC G) hl hR (c_X7_firstIn l G _ _ (by omega) _ _ (by assumption) (by assumption) (by omega) _ _ (by omega) (by omega) (by omega) (by omega)) kX7_firstIn tM_X7_113 (rcv_X7 (by omega) hM) (by decide) dX7_preyOf_33 rfl rfl (Nat.le_of_ble_eq_true rfl) (fun σ5 e5 => ?_)
    replace e5 := e5.symm
    subst e5
    rw [q1.2.1]
    refine x_istore (pc' := 38) hE dX7_preyOf_36 rfl (by decide) rfl rfl ?_
    dsimp only [List.set]
    refine x_iload (pc' := 40) hE dX7_preyOf_38 rfl rfl ?_
    refine x_iconst (pc' := 41) hE dX7_preyOf_40 rfl ?_
    refine x_icmpne (tgt := 58) (pc' := 44) hE dX7_preyOf_41 (by decide) rfl ⟨by omega, by omega⟩ ⟨by omega, by omega⟩ (fun h6 => ?_) (fun h6 => ?_)
    · refine x_iload (pc' := 60) hE dX7_preyOf_58 rfl rfl ?_
      refine x_iconst (pc' := 61) hE dX7_preyOf_60 rfl ?_
      refine x_icmpne (tgt := 78) (pc' := 64) hE dX7_preyOf_61 (by decide) rfl ⟨by omega, by omega⟩ ⟨by omega, by omega⟩ (fun h7 => ?_) (fun h7 => ?_)
      · refine x_iload (pc' := 80) hE dX7_preyOf_78 rfl rfl ?_
        refine x_iret hE dX7_preyOf_80 ?_
        first
        | (exfalso; omega)
        | (refine ⟨ri ?_, rfl⟩
           unfold prey
           rw [fsB_r, if_neg (by rw [h3]; decide)]
           repeat' split
           all_goals first | rfl | omega | (exfalso; omega))
      · refine x_aload_n (pc' := 65) hE dX7_preyOf_64 rfl rfl ?_
        refine x_aload_n (pc' := 66) hE dX7_preyOf_65 rfl rfl ?_
        refine gN_X4_1 (pc' := 69) (by omega) (by omega) (by omega) hE hM (fun _ h => nF_X7_44 h) dX7_preyOf_66 rfl ?_
        refine x_iconst (pc' := 70) hE dX7_preyOf_69 rfl ?_
        refine x_iadd (pc' := 71) hE dX7_preyOf_70 rfl ?_
        refine x_iload (pc' := 73) hE dX7_preyOf_71 rfl rfl ?_
        refine x_cV1 (pc' := 76) hE hM (okC G) hl hR (c_X7_firstIn l G _ _ (by omega) _ _ (by assumption) (by assumption) (by omega) _ _ (by omega) (by omega) (by omega) (by omega)) kX7_firstIn tM_X7_113 (rcv_X7 (by omega) hM) (by decide) dX7_preyOf_73 rfl rfl (Nat.le_of_ble_eq_true rfl) (fun σ8 e8 => ?_)
        replace e8 := e8.symm
        subst e8
        rw [q1.2.1]
        refine x_istore (pc' := 78) hE dX7_preyOf_76 rfl (by decide) rfl rfl ?_
        dsimp only [List.set]
        refine x_iload (pc' := 80) hE dX7_preyOf_78 rfl rfl ?_
        refine x_iret hE dX7_preyOf_80 ?_
        first
        | (exfalso; omega)
        | (refine ⟨ri ?_, rfl⟩
           unfold prey
           rw [fsB_r, if_neg (by rw [h3]; decide)]
           repeat' split
           all_goals first | rfl | omega | (exfalso; omega))
    · refine x_aload_n (pc' := 45) hE dX7_preyOf_44 rfl rfl ?_
      refine x_aload_n (pc' := 46) hE dX7_preyOf_45 rfl rfl ?_
      refine gN_X4_1 (pc' := 49) (by omega) (by omega) (by omega) hE hM (fun _ h => nF_X7_44 h) dX7_preyOf_46 rfl ?_
      refine x_iconst (pc' := 50) hE dX7_preyOf_49 rfl ?_
      refine x_isub (pc' := 51) hE dX7_preyOf_50 rfl ?_
      refine x_iload (pc' := 53) hE dX7_preyOf_51 rfl rfl ?_
      refine x_cV1 (pc' := 56) hE hM (okC G) hl hR (c_X7_firstIn l G _ _ (by omega) _ _ (by assumption) (by assumption) (by omega) _ _ (by omega) (by omega) (by omega) (by omega)) kX7_firstIn tM_X7_113 (rcv_X7 (by omega) hM) (by decide) dX7_preyOf_53 rfl rfl (Nat.le_of_ble_eq_true rfl) (fun σ9 e9 => ?_)
      replace e9 := e9.symm
      subst e9
      rw [q1.2.1]
      refine x_istore (pc' := 58) hE dX7_preyOf_56 rfl (by decide) rfl rfl ?_
      dsimp only [List.set]
      refine x_iload (pc' := 60) hE dX7_preyOf_58 rfl rfl ?_
      refine x_iconst (pc' := 61) hE dX7_preyOf_60 rfl ?_
      refine x_icmpne (tgt := 78) (pc' := 64) hE dX7_preyOf_61 (by decide) rfl ⟨by omega, by omega⟩ ⟨by omega, by omega⟩ (fun h10 => ?_) (fun h10 => ?_)
      · refine x_iload (pc' := 80) hE dX7_preyOf_78 rfl rfl ?_
        refine x_iret hE dX7_preyOf_80 ?_
        first
        | (exfalso; omega)
        | (refine ⟨ri ?_, rfl⟩
           unfold prey
           rw [fsB_r, if_neg (by rw [h3]; decide)]
           repeat' split
           all_goals first | rfl | omega | (exfalso; omega))
      · refine x_aload_n (pc' := 65) hE dX7_preyOf_64 rfl rfl ?_
        refine x_aload_n (pc' := 66) hE dX7_preyOf_65 rfl rfl ?_
        refine gN_X4_1 (pc' := 69) (by omega) (by omega) (by omega) hE hM (fun _ h => nF_X7_44 h) dX7_preyOf_66 rfl ?_
        refine x_iconst (pc' := 70) hE dX7_preyOf_69 rfl ?_
        refine x_iadd (pc' := 71) hE dX7_preyOf_70 rfl ?_
        refine x_iload (pc' := 73) hE dX7_preyOf_71 rfl rfl ?_
        refine x_cV1 (pc' := 76) hE hM (okC G) hl hR (c_X7_firstIn l G _ _ (by omega) _ _ (by assumption) (by assumption) (by omega) _ _ (by omega) (by omega) (by omega) (by omega)) kX7_firstIn tM_X7_113 (rcv_X7 (by omega) hM) (by decide) dX7_preyOf_73 rfl rfl (Nat.le_of_ble_eq_true rfl) (fun σ11 e11 => ?_)
        replace e11 := e11.symm
        subst e11
        rw [q1.2.1]
        refine x_istore (pc' := 78) hE dX7_preyOf_76 rfl (by decide) rfl rfl ?_
        dsimp only [List.set]
        refine x_iload (pc' := 80) hE dX7_preyOf_78 rfl rfl ?_
        refine x_iret hE dX7_preyOf_80 ?_
        first
        | (exfalso; omega)
        | (refine ⟨ri ?_, rfl⟩
           unfold prey
           rw [fsB_r, if_neg (by rw [h3]; decide)]
           repeat' split
           all_goals first | rfl | omega | (exfalso; omega))
  · try simp only [decide_eq_true_eq, decide_eq_false_iff_not] at h3
    refine x_iconst (pc' := 19) hE dX7_preyOf_18 rfl ?_
    refine x_iret hE dX7_preyOf_19 ?_
    refine ⟨ri ?_, rfl⟩
    unfold prey
    rw [fsB_r, if_pos h3]
theorem RW_eat {S : St} {w : Nat} {V : Wd} {D f k : Int} (h : RW S w V) (ho : WOk D V) (f0 : 0 ≤ f) (f1 : f < V 0 1) (hk : k ≠ -1) : RW (up (up S 6 w 0 7 (mk5 (fun j => eaQ V j || decide (j = f)))) 12 w f 2 k) w (wu V 6 f k) := by
  obtain ⟨h1, h2, h3, h4, h5, h6, h7⟩ := h
  have hv : ∀ i, wu V 6 f k 0 i = V 0 i := fun i => wu_r (by decide)
  refine ⟨by rw [up_n (by omega), up_n (by omega), hv]; exact h1, by rw [up_n (by omega), up_n (by omega), hv]; exact h2, by rw [up_n (by omega), up_n (by omega), hv]; exact h3, ?_, fun p p0 p1 => ?_, fun g g0 g1 => ?_, fun c c0 c1 => ?_⟩
  · rw [up_n (by omega), up_s]
    refine mk5_c (fun j j0 j1 => ?_)
    unfold eaQ
    rw [hv]
    by_cases e : j = f
    · subst e
      rw [wu_s]
      simp [f1, hk]
    · rw [wu_i e]
      simp [e]
  · rw [hv] at p1
    rw [up_n (by omega), up_n (by omega), up_n (by omega), up_n (by omega), up_n (by omega), up_n (by omega), wu_r (by decide), wu_r (by decide), wu_r (by decide)]
    exact h5 p p0 p1
  · rw [hv] at g1
    obtain ⟨a, b, c⟩ := h6 g g0 g1
    refine ⟨by rw [up_n (by omega), up_n (by omega), wu_r (by decide)]; exact a, by rw [up_n (by omega), up_n (by omega), wu_r (by decide)]; exact b, fun hg => ?_⟩
    by_cases e : g = f
    · subst e
      rw [up_s, wu_s]
    · rw [up_n (by omega), up_n (by omega), wu_i e]
      rw [wu_i e] at hg
      exact c hg
  · rw [up_n (by omega), up_n (by omega), wu_r (by decide)]
    exact h7 c c0 c1
theorem RW_day {S : St} {w : Nat} {V : Wd} {d : Int} (h : RW S w V) : RW (up S 6 w 0 6 d) w (wu V 0 2 d) := by
  obtain ⟨h1, h2, h3, h4, h5, h6, h7⟩ := h
  have hr : ∀ (r : Nat) (i : Int), r ≠ 0 → wu V 0 2 d r i = V r i := fun r i q => wu_r q
  refine ⟨by rw [up_n (by omega), wu_i (by decide)]; exact h1, by rw [up_n (by omega), wu_i (by decide)]; exact h2, by rw [up_s, wu_s], ?_, fun p p0 p1 => ?_, fun g g0 g1 => ?_, fun c c0 c1 => ?_⟩
  · rw [up_n (by omega), h4]
    refine mk5_c (fun j j0 j1 => ?_)
    unfold eaQ
    rw [wu_i (by decide), hr 6 j (by decide)]
  · rw [wu_i (by decide)] at p1
    rw [up_n (by omega), up_n (by omega), up_n (by omega), hr _ _ (by decide), hr _ _ (by decide), hr _ _ (by decide)]
    exact h5 p p0 p1
  · rw [wu_i (by decide)] at g1
    rw [up_n (by omega), up_n (by omega), up_n (by omega), hr _ _ (by decide), hr _ _ (by decide), hr _ _ (by decide)]
    exact h6 g g0 g1
  · rw [up_n (by omega), hr _ _ (by decide)]
    exact h7 c c0 c1
theorem FrD_eat (w : Nat) (S : St) (e f k : Int) : FrD w S (up (up S 6 w 0 7 e) 12 w f 2 k) := fun a b c d h => by
  rw [up_n (by omega), up_n (by omega)]
theorem FrD_day (w : Nat) (S : St) (d : Int) : FrD w S (up S 6 w 0 6 d) := fun a b c x h => up_n (by omega)
theorem x_fgb {E : EV} {nL : Nat} {A : Nat → Prop} {Q : State → Prop} {J : Heap → Prop} {pc : Nat} {a0 a1 a2 a3 a4 : Option Value} {st : List Value} (k : VV E nL A Q J pc [a0, a1, a2, a3, none] st) : VV E nL A Q J pc [a0, a1, a2, a3, a4] st := x_lvf (lv' := [a0, a1, a2, a3, none]) ⟨Or.inr rfl, Or.inr rfl, Or.inr rfl, Or.inr rfl, Or.inl rfl, trivial⟩ k
set_option maxHeartbeats 4000000 in
set_option maxRecDepth 10000 in
theorem c_X7_passDay (l : Launch) (G : GC) (σ : St) (w : Nat) (hw3 : w < 3) (W : Wd) (D : Int) (hRW : RW σ w W) (hWo : WOk D W) (hD : D ≤ 1000000) (F : Int → Bool) (hRF : RF σ F) : Ct l (YC G) yX7_passDay (.code yX7_passDay cX7_passDay 5 (some .int)) 3 [.ref (aC G 6 w 0), .ref (aC G 3 0 0)] σ (fun v σ' => v = some (.int (iN (dB W (goD F W)))) ∧ (RW σ' w (goD F W) ∧ FrD w σ σ')) := by
  refine Ct_of (own := RX7) [some (.ref (aC G 6 w 0)), some (.ref (aC G 3 0 0)), none, none, none] rfl rfl (Nat.le_of_ble_eq_true rfl) rfl ?_
  intro E hE hM hl hR
  obtain ⟨r1, r2, r3, r4, r5, r6, r7⟩ := id hRW
  obtain ⟨o1, o2, o3, o4, o5, o6⟩ := id hWo
  have loop : ∀ (n : Nat) (k : Nat) (S : St), RW S w (goA F W k) → FrD w σ S → (k : Int) ≤ W 0 0 → W 0 0 - k = n → VV E 5 (AS (YC G)) (Qm (YC G) (fun v σ' => v = some (.int (iN (dB W (goD F W)))) ∧ (RW σ' w (goD F W) ∧ FrD w σ σ')) E) (Rh (YC G) (S)) 7 [some (.ref (aC G 6 w 0)), some (.ref (aC G 3 0 0)), some (.int (iN (mk5 (eaQ W)))), some (.int (iN ((k : Nat) : Int))), none] [] := by
    intro n
    induction n using Nat.strongRecOn with
    | _ n ih =>
    intro k S hS hf g1 g2
    have hV : WOk D (goA F W k) := goA_ok hWo k (by omega)
    have a00 : goA F W k 0 0 = W 0 0 := goA_r F W k 0 0 (by decide)
    have a01 : goA F W k 0 1 = W 0 1 := goA_r F W k 0 1 (by decide)
    have a02 : goA F W k 0 2 = W 0 2 := goA_r F W k 0 2 (by decide)
    have hFS := hf.fa.rf hRF
    obtain ⟨s1, s2, s3, s4, s5, s6, s7⟩ := id hS
    have hp := prey_bd (F := F) hV k (W 0 2)
    have hgn := goA_n F W k
    refine x_iload_n (pc' := 8) hE dX7_passDay_7 rfl rfl ?_
    refine x_aload_n (pc' := 9) hE dX7_passDay_8 rfl rfl ?_
    refine g_X7_4 (pc' := 12) (by omega) hE hM tF_X7_36 dX7_passDay_9 rfl ?_
    refine x_icmpge (tgt := 64) (pc' := 15) hE dX7_passDay_12 (by decide) rfl ⟨by omega, by omega⟩ ⟨by omega, by omega⟩ (fun h1 => ?_) (fun h1 => ?_)
    · refine x_aload_n (pc' := 65) hE dX7_passDay_64 rfl rfl ?_
      refine x_dup (pc' := 66) hE dX7_passDay_65 rfl rfl ?_
      refine g_X7_6 (pc' := 69) (by omega) hE hM tF_X7_70 dX7_passDay_66 rfl ?_
      refine x_iconst (pc' := 70) hE dX7_passDay_69 rfl ?_
      refine x_iadd (pc' := 71) hE dX7_passDay_70 rfl ?_
      refine p_X7_6 (pc' := 74) (by omega) hE hM tF_X7_70 dX7_passDay_71 rfl ?_
      have ek : k = (W 0 0).toNat := by omega
      have eg : goD F W = wu (goA F W k) 0 2 (W 0 2 + 1) := by rw [ek]; rfl
      refine x_aload_n (pc' := 75) hE dX7_passDay_74 rfl rfl ?_
      refine g_X7_7 (pc' := 78) (by omega) hE hM tF_X7_73 dX7_passDay_75 rfl ?_
      refine x_iload_n (pc' := 79) hE dX7_passDay_78 rfl rfl ?_
      refine x_iconst (pc' := 80) hE dX7_passDay_79 rfl ?_
      refine x_ixor (pc' := 81) hE dX7_passDay_80 rfl ?_
      refine x_iand (pc' := 82) hE dX7_passDay_81 rfl ?_
      refine x_st (st' := [.int (iN (dB W (goD F W)))]) ?_ ?_
      · have eq : mk5 (fun j => eaQ (goA F W k) j && !eaQ W j) = dB W (goD F W) := by
          refine mk5_c (fun j j0 j1 => ?_)
          unfold eaQ
          rw [eg, a01, wu_r (by decide)]
          by_cases q1 : j < W 0 1 <;> by_cases q2 : W 6 j = -1 <;> simp [q1, q2]
        rw [up_n (by omega), s4, an_5, eq]
      refine x_iret hE dX7_passDay_82 ?_
      refine ⟨rfl, ?_, hf.trans (FrD_day w S _)⟩
      rw [eg, s3, a02]
      exact RW_day hS
    · refine x_aload_n (pc' := 16) hE dX7_passDay_15 rfl rfl ?_
      refine x_aload_n (pc' := 17) hE dX7_passDay_16 rfl rfl ?_
      refine g_X7_0 (pc' := 20) (by omega) hE hM tF_X7_11 dX7_passDay_17 rfl ?_
      refine x_iload_n (pc' := 21) hE dX7_passDay_20 rfl rfl ?_
      refine aC_7 (pc' := 22) (by omega) hE hM (by omega) (by omega) dX7_passDay_21 rfl ?_
      refine x_aload_n (pc' := 23) hE dX7_passDay_22 rfl rfl ?_
      refine x_cV1 (pc' := 26) hE hM (okC G) hl hR (c_X7_preyOf l G _ _ (by omega) _ _ hS hV (by omega) _ hFS _ (by omega) (by omega)) kX7_preyOf tM_X7_121 (rcv_X7 (by omega) hM) (by decide) dX7_passDay_23 rfl rfl (Nat.le_of_ble_eq_true rfl) (fun σ2 e2 => ?_)
      replace e2 := e2.symm
      subst e2
      rw [a02]
      refine x_istore (pc' := 28) hE dX7_passDay_26 rfl (by decide) rfl rfl ?_
      dsimp only [List.set]
      refine x_iload (pc' := 30) hE dX7_passDay_28 rfl rfl ?_
      refine x_iconst (pc' := 31) hE dX7_passDay_30 rfl ?_
      refine x_icmpeq (tgt := 58) (pc' := 34) hE dX7_passDay_31 (by decide) rfl ⟨by omega, by omega⟩ ⟨by omega, by omega⟩ (fun h3 => ?_) (fun h3 => ?_)
      · refine x_iinc (pc' := 61) hE dX7_passDay_58 rfl rfl (by decide) rfl rfl ?_
        dsimp only [List.set]
        refine x_goto (tgt := 7) hE dX7_passDay_61 (by decide) ?_
        rw [if_pos h3] at hgn
        refine x_fgb ?_
        refine ih (n - 1) (by omega) (k + 1) _ ?_ hf (by omega) (by omega)
        rw [hgn]
        exact hS
      · refine x_aload_n (pc' := 35) hE dX7_passDay_34 rfl rfl ?_
        refine x_dup (pc' := 36) hE dX7_passDay_35 rfl rfl ?_
        refine g_X7_7 (pc' := 39) (by omega) hE hM tF_X7_73 dX7_passDay_36 rfl ?_
        refine x_iconst (pc' := 40) hE dX7_passDay_39 rfl ?_
        refine x_iload (pc' := 42) hE dX7_passDay_40 rfl rfl ?_
        refine x_ishl (pc' := 43) hE dX7_passDay_42 rfl ?_
        refine x_ior (pc' := 44) hE dX7_passDay_43 rfl ?_
        refine x_st (st' := [.int (iN (mk5 (fun j => eaQ (goA F W k) j || decide (j = prey F (goA F W k) k (W 0 2))))), .ref (aC G 6 w 0)]) (by rw [s4, so_5 (eaQ (goA F W k)) (by omega) (by omega)]) ?_
        refine p_X7_7 (pc' := 47) (by omega) hE hM tF_X7_73 dX7_passDay_44 rfl ?_
        refine x_aload_n (pc' := 48) hE dX7_passDay_47 rfl rfl ?_
        refine g_X7_1 (pc' := 51) (by omega) hE hM tF_X7_19 dX7_passDay_48 rfl ?_
        refine x_iload (pc' := 53) hE dX7_passDay_51 rfl rfl ?_
        refine aC_8 (pc' := 54) (by omega) hE hM (by omega) (by omega) dX7_passDay_53 rfl ?_
        refine x_iload_n (pc' := 55) hE dX7_passDay_54 rfl rfl ?_
        refine pN_X2_2 (pc' := 58) (by omega) (by omega) (by omega) hE hM (fun _ h => nF_X7_93 h) dX7_passDay_55 rfl ?_
        refine x_iinc (pc' := 61) hE dX7_passDay_58 rfl rfl (by decide) rfl rfl ?_
        dsimp only [List.set]
        refine x_goto (tgt := 7) hE dX7_passDay_61 (by decide) ?_
        rw [if_neg h3] at hgn
        refine x_fgb ?_
        refine ih (n - 1) (by omega) (k + 1) _ ?_ (hf.trans (FrD_eat w S _ _ _)) (by omega) (by omega)
        rw [hgn]
        exact RW_eat hS hV (by omega) (by omega) (by omega)
  refine x_aload_n (pc' := 1) hE dX7_passDay_0 rfl rfl ?_
  refine g_X7_7 (pc' := 4) (by omega) hE hM tF_X7_73 dX7_passDay_1 rfl ?_
  refine x_istore_n (pc' := 5) hE dX7_passDay_4 rfl (by decide) rfl rfl ?_
  dsimp only [List.set]
  refine x_iconst (pc' := 6) hE dX7_passDay_5 rfl ?_
  refine x_istore_n (pc' := 7) hE dX7_passDay_6 rfl (by decide) rfl rfl ?_
  dsimp only [List.set]
  refine x_lve (lv' := [some (.ref (aC G 6 w 0)), some (.ref (aC G 3 0 0)), some (.int (iN (mk5 (eaQ W)))), some (.int (iN ((0 : Nat) : Int))), none]) (by rw [r4]; rfl) (loop (W 0 0).toNat 0 σ hRW (FrD.refl w σ) (by omega) (by omega))
set_option maxHeartbeats 4000000 in
set_option maxRecDepth 10000 in
theorem c_X7_daysUntilEaten (l : Launch) (G : GC) (σ : St) (w : Nat) (hw3 : w < 3) (W : Wd) (D : Int) (hRW : RW σ w W) (hWo : WOk D W) (hD : D ≤ 900000) (F : Int → Bool) (hRF : RF σ F) (f most : Int) (f0 : 0 ≤ f) (f1 : f < W 0 1) (y0 : 0 ≤ most) (y1 : most ≤ 60) : Ct l (YC G) yX7_daysUntilEaten (.code yX7_daysUntilEaten cX7_daysUntilEaten 5 (some .int)) 4 [.ref (aC G 6 w 0), .int (iN f), .int (iN most), .ref (aC G 3 0 0)] σ (fun v σ' => v = some (.int (iN (fallK F W f most.toNat 1))) ∧ FrD w σ σ') := by
  refine Ct_of (own := RX7) [some (.ref (aC G 6 w 0)), some (.int (iN f)), some (.int (iN most)), some (.ref (aC G 3 0 0)), none] rfl rfl (Nat.le_of_ble_eq_true rfl) rfl ?_
  intro E hE hM hl hR
  obtain ⟨r1, r2, r3, r4, r5, r6, r7⟩ := id hRW
  obtain ⟨o1, o2, o3, o4, o5, o6⟩ := id hWo
  have loop : ∀ (n : Nat) (k : Nat) (S : St), RW S w (dN F W k) → FrD w σ S → (k : Int) ≤ most → most - k = n → fallK F W f most.toNat 1 = fallK F (dN F W k) f (most.toNat - k) (k + 1) → VV E 5 (AS (YC G)) (Qm (YC G) (fun v σ' => v = some (.int (iN (fallK F W f most.toNat 1))) ∧ FrD w σ σ') E) (Rh (YC G) (S)) 3 [some (.ref (aC G 6 w 0)), some (.int (iN f)), some (.int (iN most)), some (.ref (aC G 3 0 0)), some (.int (iN ((k : Nat) + 1)))] [] := by
    intro n
    induction n using Nat.strongRecOn with
    | _ n ih =>
    intro k S hS hf g1 g2 g3
    have hV : WOk (D + k) (dN F W k) := dN_ok hWo k
    have hV1 : WOk (D + k + 1) (goD F (dN F W k)) := goD_ok hV
    have hFS := hf.fa.rf hRF
    have a1 : dN F W k 0 1 = W 0 1 := dN_r F W (by decide) (by decide) k
    have a2 : goD F (dN F W k) 0 1 = W 0 1 := by rw [goD_r F _ (by decide) (by decide)]; exact a1
    have e8 : (k : Int) < most → most.toNat - k = (most.toNat - (k + 1)) + 1 := by omega
    refine x_iload (pc' := 5) hE dX7_daysUntilEaten_3 rfl rfl ?_
    refine x_iload_n (pc' := 6) hE dX7_daysUntilEaten_5 rfl rfl ?_
    refine x_icmpgt (tgt := 32) (pc' := 9) hE dX7_daysUntilEaten_6 (by decide) rfl ⟨by omega, by omega⟩ ⟨by omega, by omega⟩ (fun h1 => ?_) (fun h1 => ?_)
    · refine x_iconst (pc' := 33) hE dX7_daysUntilEaten_32 rfl ?_
      refine x_iret hE dX7_daysUntilEaten_33 ?_
      refine ⟨ri ?_, hf⟩
      rw [g3, show most.toNat - k = 0 by omega]
      rfl
    · refine x_aload_n (pc' := 10) hE dX7_daysUntilEaten_9 rfl rfl ?_
      refine x_aload_n (pc' := 11) hE dX7_daysUntilEaten_10 rfl rfl ?_
      refine x_cV1 (pc' := 14) hE hM (okC G) hl hR (c_X7_passDay l G _ _ (by omega) _ _ hS hV (by omega) _ hFS) kX7_passDay tM_X7_125 (rcv_X7 (by omega) hM) (by decide) dX7_daysUntilEaten_11 rfl rfl (Nat.le_of_ble_eq_true rfl) (fun σ2 e2 => ?_)
      obtain ⟨hS1, hf1⟩ := e2
      have hf2 := hf.trans hf1
      refine x_pop (pc' := 15) hE dX7_daysUntilEaten_14 rfl rfl ?_
      refine x_aload_n (pc' := 16) hE dX7_daysUntilEaten_15 rfl rfl ?_
      refine x_iload_n (pc' := 17) hE dX7_daysUntilEaten_16 rfl rfl ?_
      refine x_cV1 (pc' := 20) hE hM (okC G) hl hR (c_X7_isEaten l G _ _ (by omega) _ _ hS1 hV1 (by omega) _ (by omega) (by omega)) kX7_isEaten tM_X7_84 (rcv_X7 (by omega) hM) (by decide) dX7_daysUntilEaten_17 rfl rfl (Nat.le_of_ble_eq_true rfl) (fun σ3 e3 => ?_)
      replace e3 := e3.symm
      subst e3
      refine x_ifeqB (tgt := 26) (pc' := 23) hE dX7_daysUntilEaten_20 (by decide) rfl (fun h4 => ?_) (fun h4 => ?_)
      · try simp only [decide_eq_true_eq, decide_eq_false_iff_not] at h4
        refine x_iinc (pc' := 29) hE dX7_daysUntilEaten_26 rfl rfl (by decide) rfl rfl ?_
        dsimp only [List.set]
        refine x_goto (tgt := 3) hE dX7_daysUntilEaten_29 (by decide) ?_
        have q := eaQ_f h4 (by omega)
        refine ih (n - 1) (by omega) (k + 1) _ hS1 hf2 (by omega) (by omega) ?_
        rw [g3, e8 (by omega), fallK, if_neg (by omega)]
        rfl
      · try simp only [decide_eq_true_eq, decide_eq_false_iff_not] at h4
        refine x_iload (pc' := 25) hE dX7_daysUntilEaten_23 rfl rfl ?_
        refine x_iret hE dX7_daysUntilEaten_25 ?_
        have q := eaQ_t h4
        refine ⟨ri ?_, hf2⟩
        rw [g3, e8 (by omega), fallK, if_pos q.2]
  refine x_iconst (pc' := 1) hE dX7_daysUntilEaten_0 rfl ?_
  refine x_istore (pc' := 3) hE dX7_daysUntilEaten_1 rfl (by decide) rfl rfl ?_
  dsimp only [List.set]
  exact loop most.toNat 0 σ hRW (FrD.refl w σ) (by omega) (by omega) rfl
