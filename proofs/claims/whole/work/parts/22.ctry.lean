theorem cpF_n {S : St} {w w' : Nat} {a b : Nat} {c d : Int} (h : a ≠ 9) : cpF S w w' a b c d = S a b c d := by
  unfold cpF
  rw [if_neg (by omega)]
theorem cp_pk {σ S : St} {w w' : Nat} {W : Wd} {k : Int} (hf : FrA w σ S) (hp : ∀ p, 0 ≤ p → p < k → S 11 w p 0 = W 1 p ∧ S 11 w p 1 = W 2 p ∧ S 11 w p 2 = W 3 p) (q : S 11 w' k 0 = W 1 k ∧ S 11 w' k 1 = W 2 k ∧ S 11 w' k 2 = W 3 k) : FrA w σ (up (up (up S 11 w k 0 (S 11 w' k 0)) 11 w k 1 (S 11 w' k 1)) 11 w k 2 (S 11 w' k 2)) ∧ ∀ p, 0 ≤ p → p < k + 1 → (up (up (up S 11 w k 0 (S 11 w' k 0)) 11 w k 1 (S 11 w' k 1)) 11 w k 2 (S 11 w' k 2)) 11 w p 0 = W 1 p ∧ (up (up (up S 11 w k 0 (S 11 w' k 0)) 11 w k 1 (S 11 w' k 1)) 11 w k 2 (S 11 w' k 2)) 11 w p 1 = W 2 p ∧ (up (up (up S 11 w k 0 (S 11 w' k 0)) 11 w k 1 (S 11 w' k 1)) 11 w k 2 (S 11 w' k 2)) 11 w p 2 = W 3 p := by
  obtain ⟨q1, q2, q3⟩ := q
  rw [q1, q2, q3]
  refine ⟨fun a b c d h => ?_, fun p p0 p1 => ?_⟩
  · rw [up_n (by omega), up_n (by omega), up_n (by omega)]
    exact hf a b c d h
  · by_cases e : p = k
    · subst e
      refine ⟨by rw [up_n (by omega), up_n (by omega), up_s], by rw [up_n (by omega), up_s], by rw [up_s]⟩
    · rw [up_n (by omega), up_n (by omega), up_n (by omega), up_n (by omega), up_n (by omega), up_n (by omega), up_n (by omega), up_n (by omega), up_n (by omega)]
      exact hp p p0 (by omega)
theorem cp_fl {σ S : St} {w w' : Nat} {W : Wd} {k : Int} (hf : FrA w σ S) (hp : ∀ p, 0 ≤ p → p < W 0 0 → S 11 w p 0 = W 1 p ∧ S 11 w p 1 = W 2 p ∧ S 11 w p 2 = W 3 p) (hl : ∀ f, 0 ≤ f → f < k → S 12 w f 0 = W 4 f ∧ S 12 w f 1 = W 5 f ∧ (W 6 f ≠ -1 → S 12 w f 2 = W 6 f)) (q : S 12 w' k 0 = W 4 k ∧ S 12 w' k 1 = W 5 k ∧ (W 6 k ≠ -1 → S 12 w' k 2 = W 6 k)) : FrA w σ (up (up (up S 12 w k 0 (S 12 w' k 0)) 12 w k 1 (S 12 w' k 1)) 12 w k 2 (S 12 w' k 2)) ∧ (∀ p, 0 ≤ p → p < W 0 0 → (up (up (up S 12 w k 0 (S 12 w' k 0)) 12 w k 1 (S 12 w' k 1)) 12 w k 2 (S 12 w' k 2)) 11 w p 0 = W 1 p ∧ (up (up (up S 12 w k 0 (S 12 w' k 0)) 12 w k 1 (S 12 w' k 1)) 12 w k 2 (S 12 w' k 2)) 11 w p 1 = W 2 p ∧ (up (up (up S 12 w k 0 (S 12 w' k 0)) 12 w k 1 (S 12 w' k 1)) 12 w k 2 (S 12 w' k 2)) 11 w p 2 = W 3 p) ∧ ∀ f, 0 ≤ f → f < k + 1 → (up (up (up S 12 w k 0 (S 12 w' k 0)) 12 w k 1 (S 12 w' k 1)) 12 w k 2 (S 12 w' k 2)) 12 w f 0 = W 4 f ∧ (up (up (up S 12 w k 0 (S 12 w' k 0)) 12 w k 1 (S 12 w' k 1)) 12 w k 2 (S 12 w' k 2)) 12 w f 1 = W 5 f ∧ (W 6 f ≠ -1 → (up (up (up S 12 w k 0 (S 12 w' k 0)) 12 w k 1 (S 12 w' k 1)) 12 w k 2 (S 12 w' k 2)) 12 w f 2 = W 6 f) := by
  obtain ⟨q1, q2, q3⟩ := q
  refine ⟨fun a b c d h => ?_, fun p p0 p1 => ?_, fun p p0 p1 => ?_⟩
  · rw [up_n (by omega), up_n (by omega), up_n (by omega)]
    exact hf a b c d h
  · rw [up_n (by omega), up_n (by omega), up_n (by omega), up_n (by omega), up_n (by omega), up_n (by omega), up_n (by omega), up_n (by omega), up_n (by omega)]
    exact hp p p0 p1
  · by_cases e : p = k
    · subst e
      refine ⟨by rw [up_n (by omega), up_n (by omega), up_s]; exact q1, by rw [up_n (by omega), up_s]; exact q2, fun h => by rw [up_s]; exact q3 h⟩
    · rw [up_n (by omega), up_n (by omega), up_n (by omega), up_n (by omega), up_n (by omega), up_n (by omega), up_n (by omega), up_n (by omega), up_n (by omega)]
      exact hl p p0 (by omega)
def cpS (S : St) (w w' : Nat) : St := up (up (up (up (cpF S w w') 10 w 0 0 (cpF S w w' 10 w' 0 0)) 10 w 0 1 (cpF S w w' 10 w' 0 1)) 10 w 0 2 (cpF S w w' 10 w' 0 2)) 10 w 0 3 (cpF S w w' 10 w' 0 3)
def cpT (S : St) (w w' : Nat) : St := up (up (up (up (cpS S w w') 6 w 0 4 (S 6 w' 0 4)) 6 w 0 5 (S 6 w' 0 5)) 6 w 0 6 (S 6 w' 0 6)) 6 w 0 7 (S 6 w' 0 7)
theorem cp_end {σ S : St} {w w' : Nat} {W : Wd} (hf : FrA w σ S) (hn : w' ≠ w) (hS : RW S w' W) (hp : ∀ p, 0 ≤ p → p < W 0 0 → S 11 w p 0 = W 1 p ∧ S 11 w p 1 = W 2 p ∧ S 11 w p 2 = W 3 p) (hl : ∀ f, 0 ≤ f → f < W 0 1 → S 12 w f 0 = W 4 f ∧ S 12 w f 1 = W 5 f ∧ (W 6 f ≠ -1 → S 12 w f 2 = W 6 f)) : FrA w σ (cpT S w w') ∧ RW (cpT S w w') w W ∧ ∀ j, 0 ≤ j → j < 4 → cpT S w w' 10 w 0 j = σ 10 w' 0 j := by
  obtain ⟨s1, s2, s3, s4, s5, s6, s7⟩ := hS
  have hu : ∀ (a b : Nat) (c d : Int), ¬ (b = w ∧ (a = 6 ∨ a = 9 ∨ a = 10)) → cpT S w w' a b c d = S a b c d := fun a b c d h => by
    unfold cpT cpS
    rw [up_n (by omega), up_n (by omega), up_n (by omega), up_n (by omega), up_n (by omega), up_n (by omega), up_n (by omega), up_n (by omega)]
    unfold cpF
    rw [if_neg (by omega)]
  refine ⟨fun a b c d h => ?_, ⟨?_, ?_, ?_, ?_, fun p p0 p1 => ?_, fun f f0 f1 => ?_, fun c c0 c1 => ?_⟩, fun j j0 j1 => ?_⟩
  · by_cases e : b = w ∧ (a = 6 ∨ a = 9 ∨ a = 10)
    · exact absurd ⟨e.1, by omega⟩ h
    · rw [hu a b c d e]
      exact hf a b c d h
  · unfold cpT
    rw [up_n (by omega), up_n (by omega), up_n (by omega), up_s, s1]
  · unfold cpT
    rw [up_n (by omega), up_n (by omega), up_s, s2]
  · unfold cpT
    rw [up_n (by omega), up_s, s3]
  · unfold cpT
    rw [up_s, s4]
  · rw [hu _ _ _ _ (by omega), hu _ _ _ _ (by omega), hu _ _ _ _ (by omega)]
    exact hp p p0 p1
  · rw [hu _ _ _ _ (by omega), hu _ _ _ _ (by omega), hu _ _ _ _ (by omega)]
    exact hl f f0 f1
  · unfold cpT cpS
    rw [up_n (by omega), up_n (by omega), up_n (by omega), up_n (by omega), up_n (by omega), up_n (by omega), up_n (by omega), up_n (by omega)]
    unfold cpF
    rw [if_pos ⟨rfl, rfl, rfl, c0, c1⟩]
    exact s7 c c0 c1
  · have e := hf 10 w' 0 j (by omega)
    unfold cpT cpS
    rw [up_n (by omega), up_n (by omega), up_n (by omega), up_n (by omega)]
    rcases (show j = 0 ∨ j = 1 ∨ j = 2 ∨ j = 3 by omega) with rfl | rfl | rfl | rfl
    · rw [up_n (by omega), up_n (by omega), up_n (by omega), up_s, cpF_n (by decide)]; exact e
    · rw [up_n (by omega), up_n (by omega), up_s, cpF_n (by decide)]; exact e
    · rw [up_n (by omega), up_s, cpF_n (by decide)]; exact e
    · rw [up_s, cpF_n (by decide)]; exact e
set_option maxHeartbeats 4000000 in
set_option maxRecDepth 10000 in
theorem c_X7_copyFrom (l : Launch) (G : GC) (σ : St) (w w' : Nat) (hw3 : w < 3) (hw4 : w' < 3) (hne : w' ≠ w) (W : Wd) (D : Int) (hRW : RW σ w' W) (hWo : WOk D W) : Ct l (YC G) yX7_copyFrom (.code yX7_copyFrom cX7_copyFrom 4 none) 1 [.ref (aC G 6 w 0), .ref (aC G 6 w' 0)] σ (fun v σ' => v = none ∧ (FrA w σ σ' ∧ RW σ' w W ∧ ∀ j, 0 ≤ j → j < 4 → σ' 10 w 0 j = σ 10 w' 0 j)) := by
  refine Ct_of (own := RX7) [some (.ref (aC G 6 w 0)), some (.ref (aC G 6 w' 0)), none, none] rfl rfl (Nat.le_of_ble_eq_true rfl) rfl ?_
  intro E hE hM hl hR
  obtain ⟨o1, o2, o3, o4, o5, o6⟩ := id hWo
  have loopF : ∀ (n : Nat) (k : Int) (S : St), FrA w σ S → (∀ p, 0 ≤ p → p < W 0 0 → S 11 w p 0 = W 1 p ∧ S 11 w p 1 = W 2 p ∧ S 11 w p 2 = W 3 p) → (∀ f, 0 ≤ f → f < k → S 12 w f 0 = W 4 f ∧ S 12 w f 1 = W 5 f ∧ (W 6 f ≠ -1 → S 12 w f 2 = W 6 f)) → 0 ≤ k → k ≤ W 0 1 → W 0 1 - k = n → VV E 4 (AS (YC G)) (Qm (YC G) (fun v σ' => v = none ∧ (FrA w σ σ' ∧ RW σ' w W ∧ ∀ j, 0 ≤ j → j < 4 → σ' 10 w 0 j = σ 10 w' 0 j)) E) (Rh (YC G) (S)) 46 [some (.ref (aC G 6 w 0)), some (.ref (aC G 6 w' 0)), some (.int (iN (k))), none] [] := by
    intro n
    induction n using Nat.strongRecOn with
    | _ n ih =>
    intro k S hf hp hfl g0 g1 g2
    have hS := hf.rw hne hRW
    obtain ⟨s1, s2, s3, s4, s5, s6, s7⟩ := id hS
    refine x_iload_n (pc' := 47) hE dX7_copyFrom_46 rfl rfl ?_
    refine x_aload_n (pc' := 48) hE dX7_copyFrom_47 rfl rfl ?_
    refine g_X7_5 (pc' := 51) (by omega) hE hM tF_X7_54 dX7_copyFrom_48 rfl ?_
    refine x_icmpge (tgt := 75) (pc' := 54) hE dX7_copyFrom_51 (by decide) rfl ⟨by omega, by omega⟩ ⟨by omega, by omega⟩ (fun h1 => ?_) (fun h1 => ?_)
    · refine x_aload_n (pc' := 76) hE dX7_copyFrom_75 rfl rfl ?_
      refine g_X7_2 (pc' := 79) (by omega) hE hM tF_X7_23 dX7_copyFrom_76 rfl ?_
      refine x_iconst (pc' := 80) hE dX7_copyFrom_79 rfl ?_
      refine x_aload_n (pc' := 81) hE dX7_copyFrom_80 rfl rfl ?_
      refine g_X7_2 (pc' := 84) (by omega) hE hM tF_X7_23 dX7_copyFrom_81 rfl ?_
      refine x_iconst (pc' := 85) hE dX7_copyFrom_84 rfl ?_
      refine x_bipush (pc' := 87) hE dX7_copyFrom_85 rfl (by decide +kernel) ?_
      refine x_acopy (pc' := 90) (by omega) (by omega) hE hM hR (by decide) tM_X7_61 dX7_copyFrom_87 rfl ?_
      refine x_aload_n (pc' := 91) hE dX7_copyFrom_90 rfl rfl ?_
      refine g_X7_3 (pc' := 94) (by omega) hE hM tF_X7_30 dX7_copyFrom_91 rfl ?_
      refine x_aload_n (pc' := 95) hE dX7_copyFrom_94 rfl rfl ?_
      refine g_X7_3 (pc' := 98) (by omega) hE hM tF_X7_30 dX7_copyFrom_95 rfl ?_
      refine x_cV0 (pc' := 101) hE hM (okC G) hl hR (c_X6_copyFrom l G _ _ _ (by omega) (by omega) hne) kX6_copyFrom tM_X7_67 (rcv_X6 (by omega) hM) (by decide) dX7_copyFrom_98 rfl rfl (Nat.le_of_ble_eq_true rfl) (fun σ2 e2 => ?_)
      replace e2 := e2.symm
      subst e2
      refine x_aload_n (pc' := 102) hE dX7_copyFrom_101 rfl rfl ?_
      refine x_aload_n (pc' := 103) hE dX7_copyFrom_102 rfl rfl ?_
      refine g_X7_4 (pc' := 106) (by omega) hE hM tF_X7_36 dX7_copyFrom_103 rfl ?_
      repeat rw [up_n (by omega)]
      rw [cpF_n (by decide)]
      refine p_X7_4 (pc' := 109) (by omega) hE hM tF_X7_36 dX7_copyFrom_106 rfl ?_
      refine x_aload_n (pc' := 110) hE dX7_copyFrom_109 rfl rfl ?_
      refine x_aload_n (pc' := 111) hE dX7_copyFrom_110 rfl rfl ?_
      refine g_X7_5 (pc' := 114) (by omega) hE hM tF_X7_54 dX7_copyFrom_111 rfl ?_
      repeat rw [up_n (by omega)]
      rw [cpF_n (by decide)]
      refine p_X7_5 (pc' := 117) (by omega) hE hM tF_X7_54 dX7_copyFrom_114 rfl ?_
      refine x_aload_n (pc' := 118) hE dX7_copyFrom_117 rfl rfl ?_
      refine x_aload_n (pc' := 119) hE dX7_copyFrom_118 rfl rfl ?_
      refine g_X7_6 (pc' := 122) (by omega) hE hM tF_X7_70 dX7_copyFrom_119 rfl ?_
      repeat rw [up_n (by omega)]
      rw [cpF_n (by decide)]
      refine x_aload_n (pc' := 123) hE dX7_copyFrom_122 rfl rfl ?_
      refine g_X7_7 (pc' := 126) (by omega) hE hM tF_X7_73 dX7_copyFrom_123 rfl ?_
      repeat rw [up_n (by omega)]
      rw [cpF_n (by decide)]
      refine x_cV0 (pc' := 129) hE hM (okC G) hl hR (c_X7_goBackTo l G _ _ (by omega) _ _) kX7_goBackTo tM_X7_76 (rcv_X7 (by omega) hM) (by decide) dX7_copyFrom_126 rfl rfl (Nat.le_of_ble_eq_true rfl) (fun σ3 e3 => ?_)
      replace e3 := e3.symm
      subst e3
      refine x_vret hE dX7_copyFrom_129 ?_
      have e : k = W 0 1 := by omega
      subst e
      exact ⟨rfl, cp_end hf hne hS hp hfl⟩
    · have q1 := s6 k (by omega) (by omega)
      refine x_aload_n (pc' := 55) hE dX7_copyFrom_54 rfl rfl ?_
      refine g_X7_1 (pc' := 58) (by omega) hE hM tF_X7_19 dX7_copyFrom_55 rfl ?_
      refine x_iload_n (pc' := 59) hE dX7_copyFrom_58 rfl rfl ?_
      refine aC_8 (pc' := 60) (by omega) hE hM (by omega) (by omega) dX7_copyFrom_59 rfl ?_
      refine x_aload_n (pc' := 61) hE dX7_copyFrom_60 rfl rfl ?_
      refine g_X7_1 (pc' := 64) (by omega) hE hM tF_X7_19 dX7_copyFrom_61 rfl ?_
      refine x_iload_n (pc' := 65) hE dX7_copyFrom_64 rfl rfl ?_
      refine aC_8 (pc' := 66) (by omega) hE hM (by omega) (by omega) dX7_copyFrom_65 rfl ?_
      refine x_cV0 (pc' := 69) hE hM (okC G) hl hR (c_X2_copyFrom l G _ _ _ (by omega) (by omega) hne _ (by omega) (by omega)) kX2_copyFrom tM_X7_57 (rcv_X2 (by omega) (by omega) (by omega) hM) (by decide) dX7_copyFrom_66 rfl rfl (Nat.le_of_ble_eq_true rfl) (fun σ4 e4 => ?_)
      replace e4 := e4.symm
      subst e4
      refine x_iinc (pc' := 72) hE dX7_copyFrom_69 rfl rfl (by decide) rfl rfl ?_
      dsimp only [List.set]
      refine x_goto (tgt := 46) hE dX7_copyFrom_72 (by decide) ?_
      obtain ⟨c1, c2, c3⟩ := cp_fl hf hp hfl q1
      exact ih (n - 1) (by omega) (k + 1) _ c1 c2 c3 (by omega) (by omega) (by omega)
  have loopP : ∀ (n : Nat) (k : Int) (S : St), FrA w σ S → (∀ p, 0 ≤ p → p < k → S 11 w p 0 = W 1 p ∧ S 11 w p 1 = W 2 p ∧ S 11 w p 2 = W 3 p) → 0 ≤ k → k ≤ W 0 0 → W 0 0 - k = n → VV E 4 (AS (YC G)) (Qm (YC G) (fun v σ' => v = none ∧ (FrA w σ σ' ∧ RW σ' w W ∧ ∀ j, 0 ≤ j → j < 4 → σ' 10 w 0 j = σ 10 w' 0 j)) E) (Rh (YC G) (S)) 2 [some (.ref (aC G 6 w 0)), some (.ref (aC G 6 w' 0)), some (.int (iN (k))), none] [] := by
    intro n
    induction n using Nat.strongRecOn with
    | _ n ih =>
    intro k S hf hp g0 g1 g2
    have hS := hf.rw hne hRW
    obtain ⟨s1, s2, s3, s4, s5, s6, s7⟩ := id hS
    refine x_iload_n (pc' := 3) hE dX7_copyFrom_2 rfl rfl ?_
    refine x_aload_n (pc' := 4) hE dX7_copyFrom_3 rfl rfl ?_
    refine g_X7_4 (pc' := 7) (by omega) hE hM tF_X7_36 dX7_copyFrom_4 rfl ?_
    refine x_icmpge (tgt := 44) (pc' := 10) hE dX7_copyFrom_7 (by decide) rfl ⟨by omega, by omega⟩ ⟨by omega, by omega⟩ (fun h5 => ?_) (fun h5 => ?_)
    · refine x_iconst (pc' := 45) hE dX7_copyFrom_44 rfl ?_
      refine x_istore_n (pc' := 46) hE dX7_copyFrom_45 rfl (by decide) rfl rfl ?_
      dsimp only [List.set]
      have e : k = W 0 0 := by omega
      subst e
      exact loopF (W 0 1).toNat 0 S hf hp (fun f f0 f1 => by omega) (by omega) (by omega) (by omega)
    · have q1 := s5 k (by omega) (by omega)
      have q2 := o4 k (by omega) (by omega)
      refine x_aload_n (pc' := 11) hE dX7_copyFrom_10 rfl rfl ?_
      refine g_X7_0 (pc' := 14) (by omega) hE hM tF_X7_11 dX7_copyFrom_11 rfl ?_
      refine x_iload_n (pc' := 15) hE dX7_copyFrom_14 rfl rfl ?_
      refine aC_7 (pc' := 16) (by omega) hE hM (by omega) (by omega) dX7_copyFrom_15 rfl ?_
      refine x_astore_n (pc' := 17) hE dX7_copyFrom_16 rfl (by decide) rfl rfl ?_
      dsimp only [List.set]
      refine x_aload_n (pc' := 18) hE dX7_copyFrom_17 rfl rfl ?_
      refine g_X7_0 (pc' := 21) (by omega) hE hM tF_X7_11 dX7_copyFrom_18 rfl ?_
      refine x_iload_n (pc' := 22) hE dX7_copyFrom_21 rfl rfl ?_
      refine aC_7 (pc' := 23) (by omega) hE hM (by omega) (by omega) dX7_copyFrom_22 rfl ?_
      refine x_aload_n (pc' := 24) hE dX7_copyFrom_23 rfl rfl ?_
      refine gN_X4_0 (pc' := 27) (by omega) (by omega) (by omega) hE hM (fun _ h => nF_X7_40 h) dX7_copyFrom_24 rfl ?_
      refine x_aload_n (pc' := 28) hE dX7_copyFrom_27 rfl rfl ?_
      refine gN_X4_1 (pc' := 31) (by omega) (by omega) (by omega) hE hM (fun _ h => nF_X7_44 h) dX7_copyFrom_28 rfl ?_
      refine x_aload_n (pc' := 32) hE dX7_copyFrom_31 rfl rfl ?_
      refine gN_X4_2 (pc' := 35) (by omega) (by omega) (by omega) hE hM (fun _ h => nF_X7_47 h) dX7_copyFrom_32 rfl ?_
      refine x_cV0 (pc' := 38) hE hM (okC G) hl hR (c_X4_become l G _ _ (by omega) _ _ _ _ (by omega) (by omega)) kX4_become tM_X7_50 (rcv_X4 (by omega) (by omega) (by omega) hM) (by decide) dX7_copyFrom_35 rfl rfl (Nat.le_of_ble_eq_true rfl) (fun σ6 e6 => ?_)
      replace e6 := e6.symm
      subst e6
      refine x_iinc (pc' := 41) hE dX7_copyFrom_38 rfl rfl (by decide) rfl rfl ?_
      dsimp only [List.set]
      refine x_goto (tgt := 2) hE dX7_copyFrom_41 (by decide) ?_
      obtain ⟨c1, c2⟩ := cp_pk hf hp q1
      refine x_lvf (lv' := [some (.ref (aC G 6 w 0)), some (.ref (aC G 6 w' 0)), some (.int (iN (k + 1))), none]) ⟨Or.inr rfl, Or.inr rfl, Or.inr rfl, Or.inl rfl, trivial⟩ (ih (n - 1) (by omega) (k + 1) _ c1 c2 (by omega) (by omega) (by omega))
  refine x_iconst (pc' := 1) hE dX7_copyFrom_0 rfl ?_
  refine x_istore_n (pc' := 2) hE dX7_copyFrom_1 rfl (by decide) rfl rfl ?_
  dsimp only [List.set]
  exact loopP (W 0 0).toNat 0 σ (FrA.refl w σ) (fun p p0 p1 => by omega) (by omega) (by omega) (by omega)
set_option maxHeartbeats 4000000 in
set_option maxRecDepth 10000 in
theorem c_X8_trialFromNow (l : Launch) (G : GC) (σ : St) (W : Wd) (D : Int) (hRW : RW σ 0 W) (hWo : WOk D W) : Ct l (YC G) yX8_trialFromNow (.code yX8_trialFromNow cX8_trialFromNow 1 none) 2 [.ref (aC G 0 0 0)] σ (fun v σ' => v = none ∧ (FrA 2 σ σ' ∧ RW σ' 2 W)) := by
  refine Ct_of (own := RX8) [some (.ref (aC G 0 0 0))] rfl rfl (Nat.le_of_ble_eq_true rfl) rfl ?_
  intro E hE hM hl hR
  refine x_aload_n (pc' := 1) hE dX8_trialFromNow_0 rfl rfl ?_
  refine g_X8_4 (pc' := 4) hE hM tF_X8_33 dX8_trialFromNow_1 rfl ?_
  refine x_aload_n (pc' := 5) hE dX8_trialFromNow_4 rfl rfl ?_
  refine g_X8_2 (pc' := 8) hE hM tF_X8_26 dX8_trialFromNow_5 rfl ?_
  refine x_cV0 (pc' := 11) hE hM (okC G) hl hR (c_X7_copyFrom l G _ 2 0 (by omega) (by omega) (by omega) _ _ (by assumption) (by assumption)) kX7_copyFrom tM_X8_241 (rcv_X7 (by omega) hM) (by decide) dX8_trialFromNow_8 rfl rfl (Nat.le_of_ble_eq_true rfl) (fun σ1 e1 => ?_)
  obtain ⟨hfa, hRt, -⟩ := e1
  refine x_vret hE dX8_trialFromNow_11 ?_
  exact ⟨rfl, hfa, hRt⟩
set_option maxHeartbeats 4000000 in
set_option maxRecDepth 10000 in
theorem c_X8_lossIn (l : Launch) (G : GC) (σ : St) (W : Wd) (D : Int) (hRW : RW σ 0 W) (hWo : WOk D W) (hD : D ≤ 900000) (F : Int → Bool) (hRF : RF σ F) (days : Int) (y0 : 0 ≤ days) (y1 : days ≤ 60) : Ct l (YC G) yX8_lossIn (.code yX8_lossIn cX8_lossIn 3 (some .int)) 4 [.ref (aC G 0 0 0), .int (iN days)] σ (fun v σ' => v = some (.int (iN (eatN (dN F W days.toNat) - eatN W))) ∧ FrA 2 σ σ') := by
  refine Ct_of (own := RX8) [some (.ref (aC G 0 0 0)), some (.int (iN days)), none] rfl rfl (Nat.le_of_ble_eq_true rfl) rfl ?_
  intro E hE hM hl hR
  have loop : ∀ (n : Nat) (k : Nat) (S : St), FrA 2 σ S → RW S 2 (dN F W k) → (k : Int) ≤ days → days - k = n → VV E 3 (AS (YC G)) (Qm (YC G) (fun v σ' => v = some (.int (iN (eatN (dN F W days.toNat) - eatN W))) ∧ FrA 2 σ σ') E) (Rh (YC G) (S)) 6 [some (.ref (aC G 0 0 0)), some (.int (iN days)), some (.int (iN ((k : Nat) : Int)))] [] := by
    intro n
    induction n using Nat.strongRecOn with
    | _ n ih =>
    intro k S hf hS g1 g2
    have hV : WOk (D + k) (dN F W k) := dN_ok hWo k
    have hFS := hf.rf hRF
    have hN := hf.rw (show (0 : Nat) ≠ 2 by omega) hRW
    refine x_iload_n (pc' := 7) hE dX8_lossIn_6 rfl rfl ?_
    refine x_iload_n (pc' := 8) hE dX8_lossIn_7 rfl rfl ?_
    refine x_icmpge (tgt := 29) (pc' := 11) hE dX8_lossIn_8 (by decide) rfl ⟨by omega, by omega⟩ ⟨by omega, by omega⟩ (fun h1 => ?_) (fun h1 => ?_)
    · refine x_aload_n (pc' := 30) hE dX8_lossIn_29 rfl rfl ?_
      refine g_X8_4 (pc' := 33) hE hM tF_X8_33 dX8_lossIn_30 rfl ?_
      refine x_cV1 (pc' := 36) hE hM (okC G) hl hR (c_X7_eatenInAll l G _ _ (by omega) _ _ hS hV (by omega)) kX7_eatenInAll tM_X8_238 (rcv_X7 (by omega) hM) (by decide) dX8_lossIn_33 rfl rfl (Nat.le_of_ble_eq_true rfl) (fun σ2 e2 => ?_)
      replace e2 := e2.symm
      subst e2
      refine x_aload_n (pc' := 37) hE dX8_lossIn_36 rfl rfl ?_
      refine g_X8_2 (pc' := 40) hE hM tF_X8_26 dX8_lossIn_37 rfl ?_
      refine x_cV1 (pc' := 43) hE hM (okC G) hl hR (c_X7_eatenInAll l G _ _ (by omega) _ _ hN hWo (by omega)) kX7_eatenInAll tM_X8_238 (rcv_X7 (by omega) hM) (by decide) dX8_lossIn_40 rfl rfl (Nat.le_of_ble_eq_true rfl) (fun σ3 e3 => ?_)
      replace e3 := e3.symm
      subst e3
      refine x_isub (pc' := 44) hE dX8_lossIn_43 rfl ?_
      refine x_iret hE dX8_lossIn_44 ?_
      have e : k = days.toNat := by omega
      subst e
      exact ⟨rfl, hf⟩
    · refine x_aload_n (pc' := 12) hE dX8_lossIn_11 rfl rfl ?_
      refine g_X8_4 (pc' := 15) hE hM tF_X8_33 dX8_lossIn_12 rfl ?_
      refine x_aload_n (pc' := 16) hE dX8_lossIn_15 rfl rfl ?_
      refine g_X8_1 (pc' := 19) hE hM tF_X8_19 dX8_lossIn_16 rfl ?_
      refine x_cV1 (pc' := 22) hE hM (okC G) hl hR (c_X7_passDay l G _ _ (by omega) _ _ hS hV (by omega) _ hFS) kX7_passDay tM_X8_173 (rcv_X7 (by omega) hM) (by decide) dX8_lossIn_19 rfl rfl (Nat.le_of_ble_eq_true rfl) (fun σ4 e4 => ?_)
      obtain ⟨hS1, hf1⟩ := e4
      have hf2 := hf.trans hf1.fa
      refine x_pop (pc' := 23) hE dX8_lossIn_22 rfl rfl ?_
      refine x_iinc (pc' := 26) hE dX8_lossIn_23 rfl rfl (by decide) rfl rfl ?_
      dsimp only [List.set]
      refine x_goto (tgt := 6) hE dX8_lossIn_26 (by decide) ?_
      exact ih (n - 1) (by omega) (k + 1) _ hf2 hS1 (by omega) (by omega)
  refine x_aload_n (pc' := 1) hE dX8_lossIn_0 rfl rfl ?_
  refine x_cV0 (pc' := 4) hE hM (okC G) hl hR (c_X8_trialFromNow l G _ _ _ (by assumption) (by assumption)) kX8_trialFromNow tM_X8_180 (rcv_X8 hM) (by decide) dX8_lossIn_1 rfl rfl (Nat.le_of_ble_eq_true rfl) (fun σ5 e5 => ?_)
  obtain ⟨hfa, hRt⟩ := e5
  have hRF2 := hfa.rf hRF
  have hR0 := hfa.rw (show (0 : Nat) ≠ 2 by omega) hRW
  generalize σ5 = T at *
  refine x_iconst (pc' := 5) hE dX8_lossIn_4 rfl ?_
  refine x_istore_n (pc' := 6) hE dX8_lossIn_5 rfl (by decide) rfl rfl ?_
  dsimp only [List.set]
  exact loop days.toNat 0 T hfa hRt (by omega) (by omega)
