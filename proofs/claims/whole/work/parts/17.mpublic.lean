/-- the kept world -/
def kv (τ : St) : Wd := fun r i => if r = 0 then (if i = 0 then τ 0 0 0 32 else if i = 1 then τ 0 0 0 33 else if i = 2 then τ 0 0 0 31 else 0) else if r = 7 then τ 17 0 0 i else if r < 4 then τ (r + 2) 0 0 i else if r < 7 then τ (r + 14) 0 0 i else 0
/-- what holds of the reference behind at most B calls -/
def IM (B : Int) (τ : St) : Prop := WOk B (wv τ) ∧ FOk (τ 0 0 0 1) (τ 1 0 0) ∧ (0 ≤ τ 0 0 0 0 ∧ τ 0 0 0 0 ≤ B) ∧ (0 ≤ τ 0 0 0 17 ∧ τ 0 0 0 17 ≤ 60) ∧ (0 ≤ τ 0 0 0 18 ∧ τ 0 0 0 18 ≤ 24) ∧ (∀ k, 0 ≤ k → k < 24 → 0 ≤ τ 10 0 0 k ∧ τ 10 0 0 k ≤ 126) ∧ (-1 ≤ τ 0 0 0 13 ∧ τ 0 0 0 13 < τ 0 0 0 5) ∧ (0 ≤ τ 0 0 0 14 ∧ τ 0 0 0 14 ≤ B) ∧ (0 ≤ τ 0 0 0 15 ∧ τ 0 0 0 15 ≤ 8) ∧ (∀ j, 0 ≤ j → j < 8 → 0 ≤ τ 9 0 0 j ∧ τ 9 0 0 j ≤ 1) ∧ (∀ f, 0 ≤ f → f < 5 → 0 ≤ τ 7 0 0 f ∧ τ 7 0 0 f ≤ 7) ∧ (0 ≤ τ 0 0 0 30 ∧ τ 0 0 0 30 ≤ 1) ∧ (τ 0 0 0 30 = 1 → WOk B (kv τ) ∧ τ 0 0 0 32 ≤ τ 0 0 0 5 ∧ (-1 ≤ τ 0 0 0 34 ∧ τ 0 0 0 34 < τ 0 0 0 32) ∧ (0 ≤ τ 0 0 0 35 ∧ τ 0 0 0 35 ≤ B) ∧ (0 ≤ τ 0 0 0 36 ∧ τ 0 0 0 36 ≤ 8) ∧ (∀ j, 0 ≤ j → j < 8 → 0 ≤ τ 16 0 0 j ∧ τ 16 0 0 j ≤ 1) ∧ (∀ f, 0 ≤ f → f < 5 → 0 ≤ τ 19 0 0 f ∧ τ 19 0 0 f ≤ 7))
/-! what is answered, and what is then -/
abbrev nPk (τ : St) (p : Int) : Prop := ¬ (0 ≤ p ∧ p < τ 0 0 0 5)
abbrev nFk (τ : St) (f : Int) : Prop := ¬ (0 ≤ f ∧ f < τ 0 0 0 9 ∧ τ 8 0 0 f = -1)
def aLetter (τ : St) (c : Int) : Int := if ¬ (32 ≤ c ∧ c ≤ 126) then -102 else if τ 0 0 0 18 = 24 then -104 else τ 0 0 0 18 + 1
def sLetter (τ : St) (c : Int) : St := if ¬ (32 ≤ c ∧ c ≤ 126) ∨ τ 0 0 0 18 = 24 then τ else up (up τ 10 0 0 (τ 0 0 0 18) c) 0 0 0 18 (τ 0 0 0 18 + 1)
def aBlank (τ : St) : Int := τ 0 0 0 18
def sBlank (τ : St) : St := up τ 0 0 0 18 0
def aFault (τ : St) : Int := flt (τ 10 0 0) (τ 0 0 0 18)
def aFeasts (τ : St) : Int := if whl (τ 10 0 0) (τ 0 0 0 18) = true then (τ 0 0 0 18 + 1) / 4 else -103
def sFeB (τ : St) : St := fun a b c d => if a = 1 ∧ b = 0 ∧ c = 0 then cdF (τ 10 0 0) d else up (up (up τ 0 0 0 1 ((τ 0 0 0 18 + 1) / 4)) 0 0 0 0 (τ 0 0 0 0 + 1)) 0 0 0 18 0 a b c d
def sFeasts (τ : St) : St := if whl (τ 10 0 0) (τ 0 0 0 18) = true then sFeB τ else τ
def aDayOf (τ : St) (d w : Int) : Int := if ¬ (0 ≤ d ∧ d ≤ 9999) then -101 else if 0 ≤ w ∧ w ≤ 3 then dyN (fv τ) d w else -102
def aForge (τ : St) (c d : Int) : Int := if ¬ (0 ≤ c ∧ c ≤ 7) then -101 else if ¬ (0 ≤ d ∧ d ≤ 29) then -102 else τ 2 0 0 c
def sForge (τ : St) (c d : Int) : St := if (0 ≤ c ∧ c ≤ 7) ∧ 0 ≤ d ∧ d ≤ 29 then up τ 2 0 0 c d else τ
def aPack (τ : St) (k c g : Int) : Int := if ¬ (0 ≤ c ∧ c ≤ 7) then -101 else if ¬ (0 ≤ k ∧ k ≤ 4) ∨ ¬ (0 ≤ g ∧ g ≤ 9) then -102 else if τ 0 0 0 5 = 4 then -104 else τ 0 0 0 5
def sPkB (τ : St) (k c g : Int) : St := up (up (up (up τ 3 0 0 (τ 0 0 0 5) k) 4 0 0 (τ 0 0 0 5) c) 5 0 0 (τ 0 0 0 5) g) 0 0 0 5 (τ 0 0 0 5 + 1)
def sPack (τ : St) (k c g : Int) : St := if (0 ≤ c ∧ c ≤ 7) ∧ (0 ≤ k ∧ k ≤ 4) ∧ (0 ≤ g ∧ g ≤ 9) ∧ τ 0 0 0 5 ≠ 4 then sPkB τ k c g else τ
def aAbout (τ : St) (p w : Int) : Int := if nPk τ p then -101 else if 0 ≤ w ∧ w ≤ 6 then pkN (fv τ) (wv τ) p w else -102
def aAs (τ : St) (p k : Int) : Int := if nPk τ p then -101 else if ¬ (0 ≤ k ∧ k ≤ 4) then -102 else if k = 0 ∨ τ 3 0 0 p = k ∨ (k = 3 ∧ τ 3 0 0 p = 4) then p else -1
def aFlock (τ : St) (n c : Int) : Int := if ¬ (0 ≤ n ∧ n ≤ 9) then -102 else if ¬ (0 ≤ c ∧ c ≤ 7) then -101 else if τ 0 0 0 9 = 5 then -104 else τ 0 0 0 9
def sFlB (τ : St) (n c : Int) : St := up (up (up (up τ 6 0 0 (τ 0 0 0 9) n) 7 0 0 (τ 0 0 0 9) c) 8 0 0 (τ 0 0 0 9) (-1)) 0 0 0 9 (τ 0 0 0 9 + 1)
def sFlock (τ : St) (n c : Int) : St := if (0 ≤ n ∧ n ≤ 9) ∧ (0 ≤ c ∧ c ≤ 7) ∧ τ 0 0 0 9 ≠ 5 then sFlB τ n c else τ
def aFlockOf (τ : St) (f w : Int) : Int := if ¬ (0 ≤ f ∧ f < τ 0 0 0 9) then -101 else if 0 ≤ w ∧ w ≤ 3 then flN (wv τ) f w else -102
def aName (τ : St) (f n : Int) : Int := if nFk τ f then -101 else if ¬ (0 ≤ n ∧ n ≤ 9) then -102 else τ 6 0 0 f
def sName (τ : St) (f n : Int) : St := if ¬ nFk τ f ∧ 0 ≤ n ∧ n ≤ 9 then up τ 6 0 0 f n else τ
def aMove (τ : St) (f c : Int) : Int := if nFk τ f ∨ ¬ (0 ≤ c ∧ c ≤ 7) then -101 else τ 7 0 0 f
def sMove (τ : St) (f c : Int) : St := if ¬ nFk τ f ∧ 0 ≤ c ∧ c ≤ 7 then up τ 7 0 0 f c else τ
def aDay (τ : St) : Int := dB (wv τ) (goD (fv τ) (wv τ))
def aLoss (τ : St) (d : Int) : Int := if 0 ≤ d ∧ d ≤ 60 then eatN (dN (fv τ) (wv τ) d.toNat) - eatN (wv τ) else -102
def aFalls (τ : St) (f : Int) : Int := if nFk τ f then -101 else fallK (fv τ) (wv τ) f 60 1
def aSafe (τ : St) (f d : Int) : Int := if nFk τ f then -101 else if 1 ≤ d ∧ d ≤ 30 then safeN (fv τ) (wv τ) f d.toNat else -102
def grzN (F : Int → Bool) (W : Wd) (f d w : Int) : Int := if w = 0 then gFst (fun c => grB F f d.toNat c W) (fun c => W 5 f + c / 3 ^ (d - 1).toNat - 1) (3 ^ d.toNat : Int).toNat else cntU (fun c => grB F f d.toNat c W) (3 ^ d.toNat : Int).toNat
def aGraze (τ : St) (f d w : Int) : Int := if nFk τ f then -101 else if ¬ (1 ≤ d ∧ d ≤ 6) ∨ ¬ (0 ≤ w ∧ w ≤ 1) then -102 else if τ 0 0 0 17 = 60 then -103 else grzN (fv τ) (wv τ) f d w
def sGraze (τ : St) (f d w : Int) : St := if ¬ nFk τ f ∧ (1 ≤ d ∧ d ≤ 6) ∧ (0 ≤ w ∧ w ≤ 1) ∧ τ 0 0 0 17 ≠ 60 then up τ 0 0 0 17 (τ 0 0 0 17 + 1) else τ
def aNail (τ : St) (p w : Int) : Int := if nPk τ p then -101 else if 0 ≤ w ∧ w ≤ 1 then nailN (fv τ) (τ 3 0 0 p) (τ 5 0 0 p) (τ 0 0 0 3) w else -102
def aWatch (τ : St) (p : Int) : Int := if nPk τ p then -101 else τ 0 0 0 15
def sWaB (τ : St) (p : Int) : St := up (up (up τ 0 0 0 13 p) 0 0 0 14 (τ 0 0 0 3)) 0 0 0 15 0
def sWatch (τ : St) (p : Int) : St := if nPk τ p then τ else sWaB τ p
def aSeen (τ : St) : Int := if τ 0 0 0 13 = -1 then -103 else if τ 0 0 0 15 = 8 then -104 else τ 0 0 0 15 + 1
def sSeen (τ : St) (b : Bool) : St := if τ 0 0 0 13 = -1 ∨ τ 0 0 0 15 = 8 then τ else up (up τ 9 0 0 (τ 0 0 0 15) (if b then 1 else 0)) 0 0 0 15 (τ 0 0 0 15 + 1)
def aFits (τ : St) (w : Int) : Int := if ¬ (0 ≤ w ∧ w ≤ 1) then -102 else if τ 0 0 0 13 = -1 then -103 else fitW (fv τ) (τ 2 0 0 (τ 4 0 0 (τ 0 0 0 13))) (τ 5 0 0 (τ 0 0 0 13)) (τ 0 0 0 14) (τ 9 0 0) (τ 0 0 0 15).toNat w
def aYears (τ : St) (d s w : Int) : Int := if (1 ≤ d ∧ d ≤ 60) ∧ 0 ≤ s ∧ 0 ≤ w ∧ w ≤ 1 then (if w = 0 then eatN (yrN (fv τ) (wv τ, s) d.toNat).1 else (yrN (fv τ) (wv τ, s) d.toNat).2) else -102
def aCount (τ : St) (w : Int) : Int := cnN (wv τ) (τ 0 0 0 1) (τ 0 0 0 18) (τ 0 0 0 0) (τ 0 0 0 17) (τ 0 0 0 15) w
def aDigest (τ : St) : Int := dgM (fv τ) (wv τ) (τ 0 0 0 1) (τ 0 0 0 18) (τ 0 0 0 0) (τ 0 0 0 17) (τ 0 0 0 13) (τ 0 0 0 14) (τ 0 0 0 15) (τ 9 0 0) (τ 10 0 0)
def imA (σ : St) (k : Int) : St := fun a b c d => if b = 0 ∧ c = 0 ∧ 0 ≤ d ∧ d < k then (if a = 17 then σ 2 0 0 d else if a = 16 then σ 9 0 0 d else σ a b c d) else σ a b c d
def imB (σ : St) (k : Int) : St := fun a b c d => if b = 0 ∧ c = 0 ∧ 0 ≤ d ∧ d < k then (if a = 18 then σ 6 0 0 d else if a = 19 then σ 7 0 0 d else if a = 20 then σ 8 0 0 d else σ a b c d) else σ a b c d
def im0 (τ : St) : St := up (up (up (up (up (up (up τ 0 0 0 30 1) 0 0 0 31 (τ 0 0 0 3)) 0 0 0 32 (τ 0 0 0 5)) 0 0 0 33 (τ 0 0 0 9)) 0 0 0 34 (τ 0 0 0 13)) 0 0 0 35 (τ 0 0 0 14)) 0 0 0 36 (τ 0 0 0 15)
def sImage (τ : St) : St := imB (imA (im0 τ) 8) 5
def reA (σ : St) (k : Int) : St := fun a b c d => if b = 0 ∧ c = 0 ∧ 0 ≤ d ∧ d < k then (if a = 2 then σ 17 0 0 d else if a = 9 then σ 16 0 0 d else σ a b c d) else σ a b c d
def reB (σ : St) (k : Int) : St := fun a b c d => if b = 0 ∧ c = 0 ∧ 0 ≤ d ∧ d < k then (if a = 6 then σ 18 0 0 d else if a = 7 then σ 19 0 0 d else if a = 8 then σ 20 0 0 d else σ a b c d) else σ a b c d
def re0 (τ : St) : St := up (up (up (up (up (up τ 0 0 0 3 (τ 0 0 0 31)) 0 0 0 5 (τ 0 0 0 32)) 0 0 0 9 (τ 0 0 0 33)) 0 0 0 13 (τ 0 0 0 34)) 0 0 0 14 (τ 0 0 0 35)) 0 0 0 15 (τ 0 0 0 36)
def aRestore (τ : St) : Int := if τ 0 0 0 30 = 0 then -103 else τ 0 0 0 31
def sRestore (τ : St) : St := if τ 0 0 0 30 = 0 then τ else reB (reA (re0 τ) 8) 5
theorem nar_b {v : Int} (h0 : 0 ≤ v) (h1 : v < 128) : (iN v).toInt8.toInt32 = iN v := by
  obtain ⟨n, rfl⟩ := Int.eq_ofNat_of_zero_le h0
  have h : ∀ k : Fin 128, (iN ((k.val : Nat) : Int)).toInt8.toInt32 = iN ((k.val : Nat) : Int) := by decide +kernel
  exact h ⟨n, by omega⟩
theorem nar_c {v : Int} (h0 : 0 ≤ v) (h1 : v < 128) : ((iN v).toUInt32 % 65536).toInt32 = iN v := by
  obtain ⟨n, rfl⟩ := Int.eq_ofNat_of_zero_le h0
  have h : ∀ k : Fin 128, ((iN ((k.val : Nat) : Int)).toUInt32 % 65536).toInt32 = iN ((k.val : Nat) : Int) := by decide +kernel
  exact h ⟨n, by omega⟩
theorem rl {a b : Int} (h : a = b) : some (Value.long (lL a)) = some (Value.long (lL b)) := by rw [h]
set_option maxHeartbeats 4000000 in
set_option maxRecDepth 10000 in
theorem c_X9_letter (l : Launch) (G : GM) (τ : St) (B : Int) (hI : IM B τ) (hB : B ≤ 800000) (c : Int) (hc : inR c) : Ct l (YM G) yX9_letter (.code yX9_letter cX9_letter 2 (some .int)) 1 [.ref (aM G 0), .int (iN c)] τ (fun v τ' => v = some (.int (iN (aLetter τ c))) ∧ Sd (sLetter τ c) τ') := by
  refine Ct_of (own := RX9) [some (.ref (aM G 0)), some (.int (iN c))] rfl rfl (Nat.le_of_ble_eq_true rfl) rfl ?_
  intro E hE hM hl hR
  obtain ⟨hW, hF, hrd, hak, hpl, hpg, hwt, hfr, hsn, hso, hce, hkp, hkk⟩ := hI
  obtain ⟨hnp, hnf, hday, hpp, hff, hcc⟩ := WT_of hW
  obtain ⟨c1, c2⟩ := hc
  refine x_iload_n (pc' := 1) hE dX9_letter_0 rfl rfl ?_
  refine x_bipush (pc' := 3) hE dX9_letter_1 rfl (by decide +kernel) ?_
  refine x_bipush (pc' := 5) hE dX9_letter_3 rfl (by decide +kernel) ?_
  refine x_cS1 (pc' := 8) hE hM (okM G) hl hR (c_X9_within l G _ _ _ _ ⟨by omega, by omega⟩ ⟨by omega, by omega⟩ ⟨by omega, by omega⟩) kX9_within tM_X9_75 (by decide) dX9_letter_5 rfl rfl (Nat.le_of_ble_eq_true rfl) (fun σ1 e1 => ?_)
  replace e1 := e1.symm
  subst e1
  refine x_ifneB (tgt := 14) (pc' := 11) hE dX9_letter_8 (by decide) rfl (fun h2 => ?_) (fun h2 => ?_)
  · try simp only [decide_eq_true_eq, decide_eq_false_iff_not] at h2
    refine x_aload_n (pc' := 15) hE dX9_letter_14 rfl rfl ?_
    refine gM_18 (pc' := 18) hE hM tF_X9_79 dX9_letter_15 rfl ?_
    try rw [up_s]
    repeat rw [up_n (by omega)]
    refine x_bipush (pc' := 20) hE dX9_letter_18 rfl (by decide +kernel) ?_
    refine x_icmpne (tgt := 26) (pc' := 23) hE dX9_letter_20 (by decide) rfl ⟨by omega, by omega⟩ ⟨by omega, by omega⟩ (fun h3 => ?_) (fun h3 => ?_)
    · refine x_aload_n (pc' := 27) hE dX9_letter_26 rfl rfl ?_
      refine gM_19 (pc' := 30) hE hM tF_X9_41 dX9_letter_27 rfl ?_
      refine x_aload_n (pc' := 31) hE dX9_letter_30 rfl rfl ?_
      refine gM_18 (pc' := 34) hE hM tF_X9_79 dX9_letter_31 rfl ?_
      try rw [up_s]
      repeat rw [up_n (by omega)]
      refine x_iload_n (pc' := 35) hE dX9_letter_34 rfl rfl ?_
      refine x_i2b (pc' := 36) hE dX9_letter_35 rfl (nar_b (by omega) (by omega)) ?_
      refine sM_10 (pc' := 37) hE hM (by omega) (by omega) (by rw [vp_nar_byte]; exact nar_b (by omega) (by omega)) dX9_letter_36 rfl ?_
      refine x_aload_n (pc' := 38) hE dX9_letter_37 rfl rfl ?_
      refine x_dup (pc' := 39) hE dX9_letter_38 rfl rfl ?_
      refine gM_18 (pc' := 42) hE hM tF_X9_79 dX9_letter_39 rfl ?_
      try rw [up_s]
      repeat rw [up_n (by omega)]
      refine x_iconst (pc' := 43) hE dX9_letter_42 rfl ?_
      refine x_iadd (pc' := 44) hE dX9_letter_43 rfl ?_
      refine pM_18 (pc' := 47) hE hM tF_X9_79 dX9_letter_44 rfl ?_
      refine x_aload_n (pc' := 48) hE dX9_letter_47 rfl rfl ?_
      refine gM_18 (pc' := 51) hE hM tF_X9_79 dX9_letter_48 rfl ?_
      try rw [up_s]
      repeat rw [up_n (by omega)]
      refine x_iret hE dX9_letter_51 ?_
      refine ⟨ri ?_, ?_⟩
      · first | (exfalso; omega) | skip
        all_goals unfold aLetter
        all_goals repeat' split
        all_goals first | rfl | omega | (exfalso; omega)
      · first | (exfalso; omega) | skip
        unfold sLetter
        repeat' split
        all_goals first | exact Sd.refl _ | (exfalso; omega) | assumption | (exact Sc.sd (by assumption)) | simp_all
    · refine x_bipush (pc' := 25) hE dX9_letter_23 rfl (by decide +kernel) ?_
      refine x_iret hE dX9_letter_25 ?_
      refine ⟨ri ?_, ?_⟩
      · first | (exfalso; omega) | skip
        all_goals unfold aLetter
        all_goals repeat' split
        all_goals first | rfl | omega | (exfalso; omega)
      · first | (exfalso; omega) | skip
        unfold sLetter
        repeat' split
        all_goals first | exact Sd.refl _ | (exfalso; omega) | assumption | (exact Sc.sd (by assumption)) | simp_all
  · try simp only [decide_eq_true_eq, decide_eq_false_iff_not] at h2
    refine x_bipush (pc' := 13) hE dX9_letter_11 rfl (by decide +kernel) ?_
    refine x_iret hE dX9_letter_13 ?_
    refine ⟨ri ?_, ?_⟩
    · first | (exfalso; omega) | skip
      all_goals unfold aLetter
      all_goals repeat' split
      all_goals first | rfl | omega | (exfalso; omega)
    · first | (exfalso; omega) | skip
      unfold sLetter
      repeat' split
      all_goals first | exact Sd.refl _ | (exfalso; omega) | assumption | (exact Sc.sd (by assumption)) | simp_all
set_option maxHeartbeats 4000000 in
set_option maxRecDepth 10000 in
theorem c_X9_blank (l : Launch) (G : GM) (τ : St) (B : Int) (hI : IM B τ) (hB : B ≤ 800000) : Ct l (YM G) yX9_blank (.code yX9_blank cX9_blank 2 (some .int)) 1 [.ref (aM G 0)] τ (fun v τ' => v = some (.int (iN (aBlank τ))) ∧ Sd (sBlank τ) τ') := by
  refine Ct_of (own := RX9) [some (.ref (aM G 0)), none] rfl rfl (Nat.le_of_ble_eq_true rfl) rfl ?_
  intro E hE hM hl hR
  obtain ⟨hW, hF, hrd, hak, hpl, hpg, hwt, hfr, hsn, hso, hce, hkp, hkk⟩ := hI
  obtain ⟨hnp, hnf, hday, hpp, hff, hcc⟩ := WT_of hW
  refine x_aload_n (pc' := 1) hE dX9_blank_0 rfl rfl ?_
  refine gM_18 (pc' := 4) hE hM tF_X9_79 dX9_blank_1 rfl ?_
  refine x_istore_n (pc' := 5) hE dX9_blank_4 rfl (by decide) rfl rfl ?_
  dsimp only [List.set]
  refine x_aload_n (pc' := 6) hE dX9_blank_5 rfl rfl ?_
  refine x_iconst (pc' := 7) hE dX9_blank_6 rfl ?_
  refine pM_18 (pc' := 10) hE hM tF_X9_79 dX9_blank_7 rfl ?_
  refine x_iload_n (pc' := 11) hE dX9_blank_10 rfl rfl ?_
  refine x_iret hE dX9_blank_11 ?_
  refine ⟨ri ?_, ?_⟩
  · first | (exfalso; omega) | skip
    all_goals unfold aBlank
    all_goals repeat' split
    all_goals first | rfl | omega | (exfalso; omega)
  · first | (exfalso; omega) | skip
    all_goals first | exact Sd.refl _ | (exfalso; omega) | assumption | (exact Sc.sd (by assumption)) | simp_all
set_option maxHeartbeats 4000000 in
set_option maxRecDepth 10000 in
theorem c_X9_dayOf (l : Launch) (G : GM) (τ : St) (B : Int) (hI : IM B τ) (hB : B ≤ 800000) (d : Int) (hd : inR d) (w : Int) (hw : inR w) : Ct l (YM G) yX9_dayOf (.code yX9_dayOf cX9_dayOf 3 (some .int)) 3 [.ref (aM G 0), .int (iN d), .int (iN w)] τ (fun v τ' => v = some (.int (iN (aDayOf τ d w))) ∧ Sd τ τ') := by
  refine Ct_of (own := RX9) [some (.ref (aM G 0)), some (.int (iN d)), some (.int (iN w))] rfl rfl (Nat.le_of_ble_eq_true rfl) rfl ?_
  intro E hE hM hl hR
  obtain ⟨hW, hF, hrd, hak, hpl, hpg, hwt, hfr, hsn, hso, hce, hkp, hkk⟩ := hI
  obtain ⟨hnp, hnf, hday, hpp, hff, hcc⟩ := WT_of hW
  obtain ⟨d1, d2⟩ := hd
  obtain ⟨w1, w2⟩ := hw
  refine x_iload_n (pc' := 1) hE dX9_dayOf_0 rfl rfl ?_
  refine x_iconst (pc' := 2) hE dX9_dayOf_1 rfl ?_
  refine x_sipush (pc' := 5) hE dX9_dayOf_2 rfl (by decide +kernel) ?_
  refine x_cS1 (pc' := 8) hE hM (okM G) hl hR (c_X9_within l G _ _ _ _ ⟨by omega, by omega⟩ ⟨by omega, by omega⟩ ⟨by omega, by omega⟩) kX9_within tM_X9_75 (by decide) dX9_dayOf_5 rfl rfl (Nat.le_of_ble_eq_true rfl) (fun σ1 e1 => ?_)
  replace e1 := e1.symm
  subst e1
  refine x_ifneB (tgt := 14) (pc' := 11) hE dX9_dayOf_8 (by decide) rfl (fun h2 => ?_) (fun h2 => ?_)
  · try simp only [decide_eq_true_eq, decide_eq_false_iff_not] at h2
    refine x_iload_n (pc' := 15) hE dX9_dayOf_14 rfl rfl ?_
    refine x_iconst (pc' := 16) hE dX9_dayOf_15 rfl ?_
    refine x_iconst (pc' := 17) hE dX9_dayOf_16 rfl ?_
    refine x_cS1 (pc' := 20) hE hM (okM G) hl hR (c_X9_within l G _ _ _ _ ⟨by omega, by omega⟩ ⟨by omega, by omega⟩ ⟨by omega, by omega⟩) kX9_within tM_X9_75 (by decide) dX9_dayOf_17 rfl rfl (Nat.le_of_ble_eq_true rfl) (fun σ3 e3 => ?_)
    replace e3 := e3.symm
    subst e3
    refine x_ifeqB (tgt := 32) (pc' := 23) hE dX9_dayOf_20 (by decide) rfl (fun h4 => ?_) (fun h4 => ?_)
    · try simp only [decide_eq_true_eq, decide_eq_false_iff_not] at h4
      refine x_bipush (pc' := 34) hE dX9_dayOf_32 rfl (by decide +kernel) ?_
      refine x_iret hE dX9_dayOf_34 ?_
      refine ⟨ri ?_, ?_⟩
      · first | (exfalso; omega) | skip
        first | ((show dyN (fv τ) d w = _); unfold aDayOf; rw [if_neg (by omega), if_pos (by omega)]) | skip
        all_goals unfold aDayOf
        all_goals repeat' split
        all_goals first | rfl | omega | (exfalso; omega)
      · first | (exfalso; omega) | skip
        all_goals first | exact Sd.refl _ | (exfalso; omega) | assumption | (exact Sc.sd (by assumption)) | simp_all
    · try simp only [decide_eq_true_eq, decide_eq_false_iff_not] at h4
      refine x_aload_n (pc' := 24) hE dX9_dayOf_23 rfl rfl ?_
      refine x_iload_n (pc' := 25) hE dX9_dayOf_24 rfl rfl ?_
      refine x_iload_n (pc' := 26) hE dX9_dayOf_25 rfl rfl ?_
      refine x_cV1 (pc' := 29) hE hM (okM G) hl hR (c_X9_dayTold l G _ _ _ (by assumption) (by omega) (by omega) (by omega) (by omega)) kX9_dayTold tM_X9_116 (rcvM hM) (by decide) dX9_dayOf_26 rfl rfl (Nat.le_of_ble_eq_true rfl) (fun σ5 e5 => ?_)
      replace e5 := e5.symm
      subst e5
      refine x_goto (tgt := 34) hE dX9_dayOf_29 (by decide) ?_
      refine x_iret hE dX9_dayOf_34 ?_
      refine ⟨ri ?_, ?_⟩
      · first | (exfalso; omega) | skip
        first | ((show dyN (fv τ) d w = _); unfold aDayOf; rw [if_neg (by omega), if_pos (by omega)]) | skip
        all_goals unfold aDayOf
        all_goals repeat' split
        all_goals first | rfl | omega | (exfalso; omega)
      · first | (exfalso; omega) | skip
        all_goals first | exact Sd.refl _ | (exfalso; omega) | assumption | (exact Sc.sd (by assumption)) | simp_all
  · try simp only [decide_eq_true_eq, decide_eq_false_iff_not] at h2
    refine x_bipush (pc' := 13) hE dX9_dayOf_11 rfl (by decide +kernel) ?_
    refine x_iret hE dX9_dayOf_13 ?_
    refine ⟨ri ?_, ?_⟩
    · first | (exfalso; omega) | skip
      first | ((show dyN (fv τ) d w = _); unfold aDayOf; rw [if_neg (by omega), if_pos (by omega)]) | skip
      all_goals unfold aDayOf
      all_goals repeat' split
      all_goals first | rfl | omega | (exfalso; omega)
    · first | (exfalso; omega) | skip
      all_goals first | exact Sd.refl _ | (exfalso; omega) | assumption | (exact Sc.sd (by assumption)) | simp_all
set_option maxHeartbeats 4000000 in
set_option maxRecDepth 10000 in
theorem c_X9_forge (l : Launch) (G : GM) (τ : St) (B : Int) (hI : IM B τ) (hB : B ≤ 800000) (c : Int) (hc : inR c) (d : Int) (hd : inR d) : Ct l (YM G) yX9_forge (.code yX9_forge cX9_forge 4 (some .int)) 2 [.ref (aM G 0), .int (iN c), .int (iN d)] τ (fun v τ' => v = some (.int (iN (aForge τ c d))) ∧ Sd (sForge τ c d) τ') := by
  refine Ct_of (own := RX9) [some (.ref (aM G 0)), some (.int (iN c)), some (.int (iN d)), none] rfl rfl (Nat.le_of_ble_eq_true rfl) rfl ?_
  intro E hE hM hl hR
  obtain ⟨hW, hF, hrd, hak, hpl, hpg, hwt, hfr, hsn, hso, hce, hkp, hkk⟩ := hI
  obtain ⟨hnp, hnf, hday, hpp, hff, hcc⟩ := WT_of hW
  obtain ⟨c1, c2⟩ := hc
  obtain ⟨d1, d2⟩ := hd
  refine x_iload_n (pc' := 1) hE dX9_forge_0 rfl rfl ?_
  refine x_cS1 (pc' := 4) hE hM (okM G) hl hR (c_X9_isCell l G _ _ ⟨by omega, by omega⟩) kX9_isCell tM_X9_119 (by decide) dX9_forge_1 rfl rfl (Nat.le_of_ble_eq_true rfl) (fun σ1 e1 => ?_)
  replace e1 := e1.symm
  subst e1
  refine x_ifneB (tgt := 10) (pc' := 7) hE dX9_forge_4 (by decide) rfl (fun h2 => ?_) (fun h2 => ?_)
  · try simp only [decide_eq_true_eq, decide_eq_false_iff_not] at h2
    refine x_iload_n (pc' := 11) hE dX9_forge_10 rfl rfl ?_
    refine x_iconst (pc' := 12) hE dX9_forge_11 rfl ?_
    refine x_bipush (pc' := 14) hE dX9_forge_12 rfl (by decide +kernel) ?_
    refine x_cS1 (pc' := 17) hE hM (okM G) hl hR (c_X9_within l G _ _ _ _ ⟨by omega, by omega⟩ ⟨by omega, by omega⟩ ⟨by omega, by omega⟩) kX9_within tM_X9_75 (by decide) dX9_forge_14 rfl rfl (Nat.le_of_ble_eq_true rfl) (fun σ3 e3 => ?_)
    replace e3 := e3.symm
    subst e3
    refine x_ifneB (tgt := 23) (pc' := 20) hE dX9_forge_17 (by decide) rfl (fun h4 => ?_) (fun h4 => ?_)
    · try simp only [decide_eq_true_eq, decide_eq_false_iff_not] at h4
      refine x_aload_n (pc' := 24) hE dX9_forge_23 rfl rfl ?_
      refine gM_4 (pc' := 27) hE hM tF_X9_13 dX9_forge_24 rfl ?_
      refine x_iload_n (pc' := 28) hE dX9_forge_27 rfl rfl ?_
      refine aM_2 (pc' := 29) hE hM (by omega) (by omega) dX9_forge_28 rfl ?_
      refine x_istore_n (pc' := 30) hE dX9_forge_29 rfl (by decide) rfl rfl ?_
      dsimp only [List.set]
      refine x_aload_n (pc' := 31) hE dX9_forge_30 rfl rfl ?_
      refine gM_4 (pc' := 34) hE hM tF_X9_13 dX9_forge_31 rfl ?_
      refine x_iload_n (pc' := 35) hE dX9_forge_34 rfl rfl ?_
      refine x_iload_n (pc' := 36) hE dX9_forge_35 rfl rfl ?_
      refine sM_2 (pc' := 37) hE hM (by omega) (by omega) dX9_forge_36 rfl ?_
      refine x_iload_n (pc' := 38) hE dX9_forge_37 rfl rfl ?_
      refine x_iret hE dX9_forge_38 ?_
      refine ⟨ri ?_, ?_⟩
      · first | (exfalso; omega) | skip
        all_goals unfold aForge
        all_goals repeat' split
        all_goals first | rfl | omega | (exfalso; omega)
      · first | (exfalso; omega) | skip
        unfold sForge
        repeat' split
        all_goals first | exact Sd.refl _ | (exfalso; omega) | assumption | (exact Sc.sd (by assumption)) | simp_all
    · try simp only [decide_eq_true_eq, decide_eq_false_iff_not] at h4
      refine x_bipush (pc' := 22) hE dX9_forge_20 rfl (by decide +kernel) ?_
      refine x_iret hE dX9_forge_22 ?_
      refine ⟨ri ?_, ?_⟩
      · first | (exfalso; omega) | skip
        all_goals unfold aForge
        all_goals repeat' split
        all_goals first | rfl | omega | (exfalso; omega)
      · first | (exfalso; omega) | skip
        unfold sForge
        repeat' split
        all_goals first | exact Sd.refl _ | (exfalso; omega) | assumption | (exact Sc.sd (by assumption)) | simp_all
  · try simp only [decide_eq_true_eq, decide_eq_false_iff_not] at h2
    refine x_bipush (pc' := 9) hE dX9_forge_7 rfl (by decide +kernel) ?_
    refine x_iret hE dX9_forge_9 ?_
    refine ⟨ri ?_, ?_⟩
    · first | (exfalso; omega) | skip
      all_goals unfold aForge
      all_goals repeat' split
      all_goals first | rfl | omega | (exfalso; omega)
    · first | (exfalso; omega) | skip
      unfold sForge
      repeat' split
      all_goals first | exact Sd.refl _ | (exfalso; omega) | assumption | (exact Sc.sd (by assumption)) | simp_all
set_option maxHeartbeats 4000000 in
set_option maxRecDepth 10000 in
theorem c_X9_pack (l : Launch) (G : GM) (τ : St) (B : Int) (hI : IM B τ) (hB : B ≤ 800000) (k : Int) (hk : inR k) (c : Int) (hc : inR c) (g : Int) (hg : inR g) : Ct l (YM G) yX9_pack (.code yX9_pack cX9_pack 4 (some .int)) 2 [.ref (aM G 0), .int (iN k), .int (iN c), .int (iN g)] τ (fun v τ' => v = some (.int (iN (aPack τ k c g))) ∧ Sd (sPack τ k c g) τ') := by
  refine Ct_of (own := RX9) [some (.ref (aM G 0)), some (.int (iN k)), some (.int (iN c)), some (.int (iN g))] rfl rfl (Nat.le_of_ble_eq_true rfl) rfl ?_
  intro E hE hM hl hR
  obtain ⟨hW, hF, hrd, hak, hpl, hpg, hwt, hfr, hsn, hso, hce, hkp, hkk⟩ := hI
  obtain ⟨hnp, hnf, hday, hpp, hff, hcc⟩ := WT_of hW
  obtain ⟨k1, k2⟩ := hk
  obtain ⟨c1, c2⟩ := hc
  obtain ⟨g1, g2⟩ := hg
  refine x_iload_n (pc' := 1) hE dX9_pack_0 rfl rfl ?_
  refine x_cS1 (pc' := 4) hE hM (okM G) hl hR (c_X9_isCell l G _ _ ⟨by omega, by omega⟩) kX9_isCell tM_X9_119 (by decide) dX9_pack_1 rfl rfl (Nat.le_of_ble_eq_true rfl) (fun σ1 e1 => ?_)
  replace e1 := e1.symm
  subst e1
  refine x_ifneB (tgt := 10) (pc' := 7) hE dX9_pack_4 (by decide) rfl (fun h2 => ?_) (fun h2 => ?_)
  · try simp only [decide_eq_true_eq, decide_eq_false_iff_not] at h2
    refine x_iload_n (pc' := 11) hE dX9_pack_10 rfl rfl ?_
    refine x_iconst (pc' := 12) hE dX9_pack_11 rfl ?_
    refine x_iconst (pc' := 13) hE dX9_pack_12 rfl ?_
    refine x_cS1 (pc' := 16) hE hM (okM G) hl hR (c_X9_within l G _ _ _ _ ⟨by omega, by omega⟩ ⟨by omega, by omega⟩ ⟨by omega, by omega⟩) kX9_within tM_X9_75 (by decide) dX9_pack_13 rfl rfl (Nat.le_of_ble_eq_true rfl) (fun σ3 e3 => ?_)
    replace e3 := e3.symm
    subst e3
    refine x_ifeqB (tgt := 29) (pc' := 19) hE dX9_pack_16 (by decide) rfl (fun h4 => ?_) (fun h4 => ?_)
    · try simp only [decide_eq_true_eq, decide_eq_false_iff_not] at h4
      refine x_bipush (pc' := 31) hE dX9_pack_29 rfl (by decide +kernel) ?_
      refine x_iret hE dX9_pack_31 ?_
      refine ⟨ri ?_, ?_⟩
      · first | (exfalso; omega) | skip
        all_goals unfold aPack
        all_goals repeat' split
        all_goals first | rfl | omega | (exfalso; omega)
      · first | (exfalso; omega) | skip
        unfold sPack
        repeat' split
        all_goals first | exact Sd.refl _ | (exfalso; omega) | assumption | (exact Sc.sd (by assumption)) | simp_all
    · try simp only [decide_eq_true_eq, decide_eq_false_iff_not] at h4
      refine x_iload_n (pc' := 20) hE dX9_pack_19 rfl rfl ?_
      refine x_iconst (pc' := 21) hE dX9_pack_20 rfl ?_
      refine x_bipush (pc' := 23) hE dX9_pack_21 rfl (by decide +kernel) ?_
      refine x_cS1 (pc' := 26) hE hM (okM G) hl hR (c_X9_within l G _ _ _ _ ⟨by omega, by omega⟩ ⟨by omega, by omega⟩ ⟨by omega, by omega⟩) kX9_within tM_X9_75 (by decide) dX9_pack_23 rfl rfl (Nat.le_of_ble_eq_true rfl) (fun σ5 e5 => ?_)
      replace e5 := e5.symm
      subst e5
      refine x_ifneB (tgt := 32) (pc' := 29) hE dX9_pack_26 (by decide) rfl (fun h6 => ?_) (fun h6 => ?_)
      · try simp only [decide_eq_true_eq, decide_eq_false_iff_not] at h6
        refine x_aload_n (pc' := 33) hE dX9_pack_32 rfl rfl ?_
        refine gM_5 (pc' := 36) hE hM tF_X9_122 dX9_pack_33 rfl ?_
        try rw [up_s]
        repeat rw [up_n (by omega)]
        refine x_iconst (pc' := 37) hE dX9_pack_36 rfl ?_
        refine x_icmpne (tgt := 43) (pc' := 40) hE dX9_pack_37 (by decide) rfl ⟨by omega, by omega⟩ ⟨by omega, by omega⟩ (fun h7 => ?_) (fun h7 => ?_)
        · refine x_aload_n (pc' := 44) hE dX9_pack_43 rfl rfl ?_
          refine gM_6 (pc' := 47) hE hM tF_X9_16 dX9_pack_44 rfl ?_
          refine x_aload_n (pc' := 48) hE dX9_pack_47 rfl rfl ?_
          refine gM_5 (pc' := 51) hE hM tF_X9_122 dX9_pack_48 rfl ?_
          try rw [up_s]
          repeat rw [up_n (by omega)]
          refine x_iload_n (pc' := 52) hE dX9_pack_51 rfl rfl ?_
          refine sM_3 (pc' := 53) hE hM (by omega) (by omega) dX9_pack_52 rfl ?_
          refine x_aload_n (pc' := 54) hE dX9_pack_53 rfl rfl ?_
          refine gM_7 (pc' := 57) hE hM tF_X9_19 dX9_pack_54 rfl ?_
          refine x_aload_n (pc' := 58) hE dX9_pack_57 rfl rfl ?_
          refine gM_5 (pc' := 61) hE hM tF_X9_122 dX9_pack_58 rfl ?_
          try rw [up_s]
          repeat rw [up_n (by omega)]
          refine x_iload_n (pc' := 62) hE dX9_pack_61 rfl rfl ?_
          refine sM_4 (pc' := 63) hE hM (by omega) (by omega) dX9_pack_62 rfl ?_
          refine x_aload_n (pc' := 64) hE dX9_pack_63 rfl rfl ?_
          refine gM_8 (pc' := 67) hE hM tF_X9_22 dX9_pack_64 rfl ?_
          refine x_aload_n (pc' := 68) hE dX9_pack_67 rfl rfl ?_
          refine gM_5 (pc' := 71) hE hM tF_X9_122 dX9_pack_68 rfl ?_
          try rw [up_s]
          repeat rw [up_n (by omega)]
          refine x_iload_n (pc' := 72) hE dX9_pack_71 rfl rfl ?_
          refine sM_5 (pc' := 73) hE hM (by omega) (by omega) dX9_pack_72 rfl ?_
          refine x_aload_n (pc' := 74) hE dX9_pack_73 rfl rfl ?_
          refine x_dup (pc' := 75) hE dX9_pack_74 rfl rfl ?_
          refine gM_5 (pc' := 78) hE hM tF_X9_122 dX9_pack_75 rfl ?_
          try rw [up_s]
          repeat rw [up_n (by omega)]
          refine x_iconst (pc' := 79) hE dX9_pack_78 rfl ?_
          refine x_iadd (pc' := 80) hE dX9_pack_79 rfl ?_
          refine pM_5 (pc' := 83) hE hM tF_X9_122 dX9_pack_80 rfl ?_
          refine x_aload_n (pc' := 84) hE dX9_pack_83 rfl rfl ?_
          refine gM_5 (pc' := 87) hE hM tF_X9_122 dX9_pack_84 rfl ?_
          try rw [up_s]
          repeat rw [up_n (by omega)]
          refine x_iconst (pc' := 88) hE dX9_pack_87 rfl ?_
          refine x_isub (pc' := 89) hE dX9_pack_88 rfl ?_
          refine x_iret hE dX9_pack_89 ?_
          refine ⟨ri ?_, ?_⟩
          · first | (exfalso; omega) | skip
            all_goals unfold aPack
            all_goals repeat' split
            all_goals first | rfl | omega | (exfalso; omega)
          · first | (exfalso; omega) | skip
            unfold sPack
            repeat' split
            all_goals first | exact Sd.refl _ | (exfalso; omega) | assumption | (exact Sc.sd (by assumption)) | simp_all
        · refine x_bipush (pc' := 42) hE dX9_pack_40 rfl (by decide +kernel) ?_
          refine x_iret hE dX9_pack_42 ?_
          refine ⟨ri ?_, ?_⟩
          · first | (exfalso; omega) | skip
            all_goals unfold aPack
            all_goals repeat' split
            all_goals first | rfl | omega | (exfalso; omega)
          · first | (exfalso; omega) | skip
            unfold sPack
            repeat' split
            all_goals first | exact Sd.refl _ | (exfalso; omega) | assumption | (exact Sc.sd (by assumption)) | simp_all
      · try simp only [decide_eq_true_eq, decide_eq_false_iff_not] at h6
        refine x_bipush (pc' := 31) hE dX9_pack_29 rfl (by decide +kernel) ?_
        refine x_iret hE dX9_pack_31 ?_
        refine ⟨ri ?_, ?_⟩
        · first | (exfalso; omega) | skip
          all_goals unfold aPack
          all_goals repeat' split
          all_goals first | rfl | omega | (exfalso; omega)
        · first | (exfalso; omega) | skip
          unfold sPack
          repeat' split
          all_goals first | exact Sd.refl _ | (exfalso; omega) | assumption | (exact Sc.sd (by assumption)) | simp_all
  · try simp only [decide_eq_true_eq, decide_eq_false_iff_not] at h2
    refine x_bipush (pc' := 9) hE dX9_pack_7 rfl (by decide +kernel) ?_
    refine x_iret hE dX9_pack_9 ?_
    refine ⟨ri ?_, ?_⟩
    · first | (exfalso; omega) | skip
      all_goals unfold aPack
      all_goals repeat' split
      all_goals first | rfl | omega | (exfalso; omega)
    · first | (exfalso; omega) | skip
      unfold sPack
      repeat' split
      all_goals first | exact Sd.refl _ | (exfalso; omega) | assumption | (exact Sc.sd (by assumption)) | simp_all
set_option maxHeartbeats 4000000 in
set_option maxRecDepth 10000 in
theorem c_X9_about (l : Launch) (G : GM) (τ : St) (B : Int) (hI : IM B τ) (hB : B ≤ 800000) (p : Int) (hp : inR p) (w : Int) (hw : inR w) : Ct l (YM G) yX9_about (.code yX9_about cX9_about 3 (some .int)) 5 [.ref (aM G 0), .int (iN p), .int (iN w)] τ (fun v τ' => v = some (.int (iN (aAbout τ p w))) ∧ Sd τ τ') := by
  refine Ct_of (own := RX9) [some (.ref (aM G 0)), some (.int (iN p)), some (.int (iN w))] rfl rfl (Nat.le_of_ble_eq_true rfl) rfl ?_
  intro E hE hM hl hR
  obtain ⟨hW, hF, hrd, hak, hpl, hpg, hwt, hfr, hsn, hso, hce, hkp, hkk⟩ := hI
  obtain ⟨hnp, hnf, hday, hpp, hff, hcc⟩ := WT_of hW
  obtain ⟨p1, p2⟩ := hp
  obtain ⟨w1, w2⟩ := hw
  refine x_aload_n (pc' := 1) hE dX9_about_0 rfl rfl ?_
  refine x_iload_n (pc' := 2) hE dX9_about_1 rfl rfl ?_
  refine x_cV1 (pc' := 5) hE hM (okM G) hl hR (c_X9_isPack l G _ _ ⟨by omega, by omega⟩ (by omega)) kX9_isPack tM_X9_155 (rcvM hM) (by decide) dX9_about_2 rfl rfl (Nat.le_of_ble_eq_true rfl) (fun σ1 e1 => ?_)
  replace e1 := e1.symm
  subst e1
  refine x_ifneB (tgt := 13) (pc' := 8) hE dX9_about_5 (by decide) rfl (fun h2 => ?_) (fun h2 => ?_)
  · try simp only [decide_eq_true_eq, decide_eq_false_iff_not] at h2
    refine x_iload_n (pc' := 14) hE dX9_about_13 rfl rfl ?_
    refine x_iconst (pc' := 15) hE dX9_about_14 rfl ?_
    refine x_bipush (pc' := 17) hE dX9_about_15 rfl (by decide +kernel) ?_
    refine x_cS1 (pc' := 20) hE hM (okM G) hl hR (c_X9_within l G _ _ _ _ ⟨by omega, by omega⟩ ⟨by omega, by omega⟩ ⟨by omega, by omega⟩) kX9_within tM_X9_75 (by decide) dX9_about_17 rfl rfl (Nat.le_of_ble_eq_true rfl) (fun σ3 e3 => ?_)
    replace e3 := e3.symm
    subst e3
    refine x_ifeqB (tgt := 32) (pc' := 23) hE dX9_about_20 (by decide) rfl (fun h4 => ?_) (fun h4 => ?_)
    · try simp only [decide_eq_true_eq, decide_eq_false_iff_not] at h4
      refine x_bipush (pc' := 34) hE dX9_about_32 rfl (by decide +kernel) ?_
      refine x_iret hE dX9_about_34 ?_
      refine ⟨ri ?_, ?_⟩
      · first | (exfalso; omega) | skip
        first | ((show pkN (fv τ) (wv τ) p w = _); unfold aAbout; rw [if_neg (by omega), if_pos (by omega)]) | skip
        all_goals unfold aAbout
        all_goals repeat' split
        all_goals first | rfl | omega | (exfalso; omega)
      · first | (exfalso; omega) | skip
        all_goals first | exact Sd.refl _ | (exfalso; omega) | assumption | (exact Sc.sd (by assumption)) | simp_all
    · try simp only [decide_eq_true_eq, decide_eq_false_iff_not] at h4
      refine x_aload_n (pc' := 24) hE dX9_about_23 rfl rfl ?_
      refine x_iload_n (pc' := 25) hE dX9_about_24 rfl rfl ?_
      refine x_iload_n (pc' := 26) hE dX9_about_25 rfl rfl ?_
      refine x_cV1 (pc' := 29) hE hM (okM G) hl hR (c_X9_packNow l G _ _ (by assumption) (by omega) (by assumption) _ _ (by omega) (by omega) (by omega) (by omega)) kX9_packNow tM_X9_158 (rcvM hM) (by decide) dX9_about_26 rfl rfl (Nat.le_of_ble_eq_true rfl) (fun σ5 e5 => ?_)
      replace e5 := e5.symm
      subst e5
      refine x_goto (tgt := 34) hE dX9_about_29 (by decide) ?_
      refine x_iret hE dX9_about_34 ?_
      refine ⟨ri ?_, ?_⟩
      · first | (exfalso; omega) | skip
        first | ((show pkN (fv τ) (wv τ) p w = _); unfold aAbout; rw [if_neg (by omega), if_pos (by omega)]) | skip
        all_goals unfold aAbout
        all_goals repeat' split
        all_goals first | rfl | omega | (exfalso; omega)
      · first | (exfalso; omega) | skip
        all_goals first | exact Sd.refl _ | (exfalso; omega) | assumption | (exact Sc.sd (by assumption)) | simp_all
  · try simp only [decide_eq_true_eq, decide_eq_false_iff_not] at h2
    refine x_bipush (pc' := 10) hE dX9_about_8 rfl (by decide +kernel) ?_
    refine x_goto (tgt := 34) hE dX9_about_10 (by decide) ?_
    refine x_iret hE dX9_about_34 ?_
    refine ⟨ri ?_, ?_⟩
    · first | (exfalso; omega) | skip
      first | ((show pkN (fv τ) (wv τ) p w = _); unfold aAbout; rw [if_neg (by omega), if_pos (by omega)]) | skip
      all_goals unfold aAbout
      all_goals repeat' split
      all_goals first | rfl | omega | (exfalso; omega)
    · first | (exfalso; omega) | skip
      all_goals first | exact Sd.refl _ | (exfalso; omega) | assumption | (exact Sc.sd (by assumption)) | simp_all
set_option maxHeartbeats 4000000 in
set_option maxRecDepth 10000 in
theorem c_X9_as (l : Launch) (G : GM) (τ : St) (B : Int) (hI : IM B τ) (hB : B ≤ 800000) (p : Int) (hp : inR p) (k : Int) (hk : inR k) : Ct l (YM G) yX9_as (.code yX9_as cX9_as 4 (some .int)) 2 [.ref (aM G 0), .int (iN p), .int (iN k)] τ (fun v τ' => v = some (.int (iN (aAs τ p k))) ∧ Sd τ τ') := by
  refine Ct_of (own := RX9) [some (.ref (aM G 0)), some (.int (iN p)), some (.int (iN k)), none] rfl rfl (Nat.le_of_ble_eq_true rfl) rfl ?_
  intro E hE hM hl hR
  obtain ⟨hW, hF, hrd, hak, hpl, hpg, hwt, hfr, hsn, hso, hce, hkp, hkk⟩ := hI
  obtain ⟨hnp, hnf, hday, hpp, hff, hcc⟩ := WT_of hW
  obtain ⟨p1, p2⟩ := hp
  obtain ⟨k1, k2⟩ := hk
  refine x_aload_n (pc' := 1) hE dX9_as_0 rfl rfl ?_
  refine x_iload_n (pc' := 2) hE dX9_as_1 rfl rfl ?_
  refine x_cV1 (pc' := 5) hE hM (okM G) hl hR (c_X9_isPack l G _ _ ⟨by omega, by omega⟩ (by omega)) kX9_isPack tM_X9_155 (rcvM hM) (by decide) dX9_as_2 rfl rfl (Nat.le_of_ble_eq_true rfl) (fun σ1 e1 => ?_)
  replace e1 := e1.symm
  subst e1
  refine x_ifneB (tgt := 11) (pc' := 8) hE dX9_as_5 (by decide) rfl (fun h2 => ?_) (fun h2 => ?_)
  · try simp only [decide_eq_true_eq, decide_eq_false_iff_not] at h2
    refine x_iload_n (pc' := 12) hE dX9_as_11 rfl rfl ?_
    refine x_iconst (pc' := 13) hE dX9_as_12 rfl ?_
    refine x_iconst (pc' := 14) hE dX9_as_13 rfl ?_
    refine x_cS1 (pc' := 17) hE hM (okM G) hl hR (c_X9_within l G _ _ _ _ ⟨by omega, by omega⟩ ⟨by omega, by omega⟩ ⟨by omega, by omega⟩) kX9_within tM_X9_75 (by decide) dX9_as_14 rfl rfl (Nat.le_of_ble_eq_true rfl) (fun σ3 e3 => ?_)
    replace e3 := e3.symm
    subst e3
    refine x_ifneB (tgt := 23) (pc' := 20) hE dX9_as_17 (by decide) rfl (fun h4 => ?_) (fun h4 => ?_)
    · try simp only [decide_eq_true_eq, decide_eq_false_iff_not] at h4
      refine x_aload_n (pc' := 24) hE dX9_as_23 rfl rfl ?_
      refine gM_6 (pc' := 27) hE hM tF_X9_16 dX9_as_24 rfl ?_
      refine x_iload_n (pc' := 28) hE dX9_as_27 rfl rfl ?_
      refine aM_3 (pc' := 29) hE hM (by omega) (by omega) dX9_as_28 rfl ?_
      refine x_istore_n (pc' := 30) hE dX9_as_29 rfl (by decide) rfl rfl ?_
      dsimp only [List.set]
      refine x_iload_n (pc' := 31) hE dX9_as_30 rfl rfl ?_
      refine x_ifeq (tgt := 49) (pc' := 34) hE dX9_as_31 (by decide) rfl ⟨by omega, by omega⟩ (fun h5 => ?_) (fun h5 => ?_)
      · refine x_iload_n (pc' := 50) hE dX9_as_49 rfl rfl ?_
        refine x_goto (tgt := 54) hE dX9_as_50 (by decide) ?_
        refine x_iret hE dX9_as_54 ?_
        refine ⟨ri ?_, ?_⟩
        · first | (exfalso; omega) | skip
          all_goals unfold aAs
          all_goals repeat' split
          all_goals first | rfl | omega | (exfalso; omega)
        · first | (exfalso; omega) | skip
          all_goals first | exact Sd.refl _ | (exfalso; omega) | assumption | (exact Sc.sd (by assumption)) | simp_all
      · have q1 := hpp p (by omega) (by omega)
        refine x_iload_n (pc' := 35) hE dX9_as_34 rfl rfl ?_
        refine x_iload_n (pc' := 36) hE dX9_as_35 rfl rfl ?_
        refine x_icmpeq (tgt := 49) (pc' := 39) hE dX9_as_36 (by decide) rfl ⟨by omega, by omega⟩ ⟨by omega, by omega⟩ (fun h6 => ?_) (fun h6 => ?_)
        · refine x_iload_n (pc' := 50) hE dX9_as_49 rfl rfl ?_
          refine x_goto (tgt := 54) hE dX9_as_50 (by decide) ?_
          refine x_iret hE dX9_as_54 ?_
          refine ⟨ri ?_, ?_⟩
          · first | (exfalso; omega) | skip
            all_goals unfold aAs
            all_goals repeat' split
            all_goals first | rfl | omega | (exfalso; omega)
          · first | (exfalso; omega) | skip
            all_goals first | exact Sd.refl _ | (exfalso; omega) | assumption | (exact Sc.sd (by assumption)) | simp_all
        · refine x_iload_n (pc' := 40) hE dX9_as_39 rfl rfl ?_
          refine x_iconst (pc' := 41) hE dX9_as_40 rfl ?_
          refine x_icmpne (tgt := 53) (pc' := 44) hE dX9_as_41 (by decide) rfl ⟨by omega, by omega⟩ ⟨by omega, by omega⟩ (fun h7 => ?_) (fun h7 => ?_)
          · refine x_iconst (pc' := 54) hE dX9_as_53 rfl ?_
            refine x_iret hE dX9_as_54 ?_
            refine ⟨ri ?_, ?_⟩
            · first | (exfalso; omega) | skip
              all_goals unfold aAs
              all_goals repeat' split
              all_goals first | rfl | omega | (exfalso; omega)
            · first | (exfalso; omega) | skip
              all_goals first | exact Sd.refl _ | (exfalso; omega) | assumption | (exact Sc.sd (by assumption)) | simp_all
          · have q1 := hpp p (by omega) (by omega)
            refine x_iload_n (pc' := 45) hE dX9_as_44 rfl rfl ?_
            refine x_iconst (pc' := 46) hE dX9_as_45 rfl ?_
            refine x_icmpne (tgt := 53) (pc' := 49) hE dX9_as_46 (by decide) rfl ⟨by omega, by omega⟩ ⟨by omega, by omega⟩ (fun h8 => ?_) (fun h8 => ?_)
            · refine x_iconst (pc' := 54) hE dX9_as_53 rfl ?_
              refine x_iret hE dX9_as_54 ?_
              refine ⟨ri ?_, ?_⟩
              · first | (exfalso; omega) | skip
                all_goals unfold aAs
                all_goals repeat' split
                all_goals first | rfl | omega | (exfalso; omega)
              · first | (exfalso; omega) | skip
                all_goals first | exact Sd.refl _ | (exfalso; omega) | assumption | (exact Sc.sd (by assumption)) | simp_all
            · refine x_iload_n (pc' := 50) hE dX9_as_49 rfl rfl ?_
              refine x_goto (tgt := 54) hE dX9_as_50 (by decide) ?_
              refine x_iret hE dX9_as_54 ?_
              refine ⟨ri ?_, ?_⟩
              · first | (exfalso; omega) | skip
                all_goals unfold aAs
                all_goals repeat' split
                all_goals first | rfl | omega | (exfalso; omega)
              · first | (exfalso; omega) | skip
                all_goals first | exact Sd.refl _ | (exfalso; omega) | assumption | (exact Sc.sd (by assumption)) | simp_all
    · try simp only [decide_eq_true_eq, decide_eq_false_iff_not] at h4
      refine x_bipush (pc' := 22) hE dX9_as_20 rfl (by decide +kernel) ?_
      refine x_iret hE dX9_as_22 ?_
      refine ⟨ri ?_, ?_⟩
      · first | (exfalso; omega) | skip
        all_goals unfold aAs
        all_goals repeat' split
        all_goals first | rfl | omega | (exfalso; omega)
      · first | (exfalso; omega) | skip
        all_goals first | exact Sd.refl _ | (exfalso; omega) | assumption | (exact Sc.sd (by assumption)) | simp_all
  · try simp only [decide_eq_true_eq, decide_eq_false_iff_not] at h2
    refine x_bipush (pc' := 10) hE dX9_as_8 rfl (by decide +kernel) ?_
    refine x_iret hE dX9_as_10 ?_
    refine ⟨ri ?_, ?_⟩
    · first | (exfalso; omega) | skip
      all_goals unfold aAs
      all_goals repeat' split
      all_goals first | rfl | omega | (exfalso; omega)
    · first | (exfalso; omega) | skip
      all_goals first | exact Sd.refl _ | (exfalso; omega) | assumption | (exact Sc.sd (by assumption)) | simp_all
set_option maxHeartbeats 4000000 in
set_option maxRecDepth 10000 in
theorem c_X9_flock (l : Launch) (G : GM) (τ : St) (B : Int) (hI : IM B τ) (hB : B ≤ 800000) (n : Int) (hn : inR n) (c : Int) (hc : inR c) : Ct l (YM G) yX9_flock (.code yX9_flock cX9_flock 3 (some .int)) 2 [.ref (aM G 0), .int (iN n), .int (iN c)] τ (fun v τ' => v = some (.int (iN (aFlock τ n c))) ∧ Sd (sFlock τ n c) τ') := by
  refine Ct_of (own := RX9) [some (.ref (aM G 0)), some (.int (iN n)), some (.int (iN c))] rfl rfl (Nat.le_of_ble_eq_true rfl) rfl ?_
  intro E hE hM hl hR
  obtain ⟨hW, hF, hrd, hak, hpl, hpg, hwt, hfr, hsn, hso, hce, hkp, hkk⟩ := hI
  obtain ⟨hnp, hnf, hday, hpp, hff, hcc⟩ := WT_of hW
  obtain ⟨n1, n2⟩ := hn
  obtain ⟨c1, c2⟩ := hc
  refine x_iload_n (pc' := 1) hE dX9_flock_0 rfl rfl ?_
  refine x_cS1 (pc' := 4) hE hM (okM G) hl hR (c_X9_isName l G _ _ ⟨by omega, by omega⟩) kX9_isName tM_X9_164 (by decide) dX9_flock_1 rfl rfl (Nat.le_of_ble_eq_true rfl) (fun σ1 e1 => ?_)
  replace e1 := e1.symm
  subst e1
  refine x_ifneB (tgt := 10) (pc' := 7) hE dX9_flock_4 (by decide) rfl (fun h2 => ?_) (fun h2 => ?_)
  · try simp only [decide_eq_true_eq, decide_eq_false_iff_not] at h2
    refine x_iload_n (pc' := 11) hE dX9_flock_10 rfl rfl ?_
    refine x_cS1 (pc' := 14) hE hM (okM G) hl hR (c_X9_isCell l G _ _ ⟨by omega, by omega⟩) kX9_isCell tM_X9_119 (by decide) dX9_flock_11 rfl rfl (Nat.le_of_ble_eq_true rfl) (fun σ3 e3 => ?_)
    replace e3 := e3.symm
    subst e3
    refine x_ifneB (tgt := 20) (pc' := 17) hE dX9_flock_14 (by decide) rfl (fun h4 => ?_) (fun h4 => ?_)
    · try simp only [decide_eq_true_eq, decide_eq_false_iff_not] at h4
      refine x_aload_n (pc' := 21) hE dX9_flock_20 rfl rfl ?_
      refine gM_9 (pc' := 24) hE hM tF_X9_133 dX9_flock_21 rfl ?_
      try rw [up_s]
      repeat rw [up_n (by omega)]
      refine x_iconst (pc' := 25) hE dX9_flock_24 rfl ?_
      refine x_icmpne (tgt := 31) (pc' := 28) hE dX9_flock_25 (by decide) rfl ⟨by omega, by omega⟩ ⟨by omega, by omega⟩ (fun h5 => ?_) (fun h5 => ?_)
      · refine x_aload_n (pc' := 32) hE dX9_flock_31 rfl rfl ?_
        refine gM_10 (pc' := 35) hE hM tF_X9_25 dX9_flock_32 rfl ?_
        refine x_aload_n (pc' := 36) hE dX9_flock_35 rfl rfl ?_
        refine gM_9 (pc' := 39) hE hM tF_X9_133 dX9_flock_36 rfl ?_
        try rw [up_s]
        repeat rw [up_n (by omega)]
        refine x_iload_n (pc' := 40) hE dX9_flock_39 rfl rfl ?_
        refine sM_6 (pc' := 41) hE hM (by omega) (by omega) dX9_flock_40 rfl ?_
        refine x_aload_n (pc' := 42) hE dX9_flock_41 rfl rfl ?_
        refine gM_11 (pc' := 45) hE hM tF_X9_28 dX9_flock_42 rfl ?_
        refine x_aload_n (pc' := 46) hE dX9_flock_45 rfl rfl ?_
        refine gM_9 (pc' := 49) hE hM tF_X9_133 dX9_flock_46 rfl ?_
        try rw [up_s]
        repeat rw [up_n (by omega)]
        refine x_iload_n (pc' := 50) hE dX9_flock_49 rfl rfl ?_
        refine sM_7 (pc' := 51) hE hM (by omega) (by omega) dX9_flock_50 rfl ?_
        refine x_aload_n (pc' := 52) hE dX9_flock_51 rfl rfl ?_
        refine gM_12 (pc' := 55) hE hM tF_X9_31 dX9_flock_52 rfl ?_
        refine x_aload_n (pc' := 56) hE dX9_flock_55 rfl rfl ?_
        refine gM_9 (pc' := 59) hE hM tF_X9_133 dX9_flock_56 rfl ?_
        try rw [up_s]
        repeat rw [up_n (by omega)]
        refine x_iconst (pc' := 60) hE dX9_flock_59 rfl ?_
        refine sM_8 (pc' := 61) hE hM (by omega) (by omega) dX9_flock_60 rfl ?_
        refine x_aload_n (pc' := 62) hE dX9_flock_61 rfl rfl ?_
        refine x_dup (pc' := 63) hE dX9_flock_62 rfl rfl ?_
        refine gM_9 (pc' := 66) hE hM tF_X9_133 dX9_flock_63 rfl ?_
        try rw [up_s]
        repeat rw [up_n (by omega)]
        refine x_iconst (pc' := 67) hE dX9_flock_66 rfl ?_
        refine x_iadd (pc' := 68) hE dX9_flock_67 rfl ?_
        refine pM_9 (pc' := 71) hE hM tF_X9_133 dX9_flock_68 rfl ?_
        refine x_aload_n (pc' := 72) hE dX9_flock_71 rfl rfl ?_
        refine gM_9 (pc' := 75) hE hM tF_X9_133 dX9_flock_72 rfl ?_
        try rw [up_s]
        repeat rw [up_n (by omega)]
        refine x_iconst (pc' := 76) hE dX9_flock_75 rfl ?_
        refine x_isub (pc' := 77) hE dX9_flock_76 rfl ?_
        refine x_iret hE dX9_flock_77 ?_
        refine ⟨ri ?_, ?_⟩
        · first | (exfalso; omega) | skip
          all_goals unfold aFlock
          all_goals repeat' split
          all_goals first | rfl | omega | (exfalso; omega)
        · first | (exfalso; omega) | skip
          unfold sFlock
          repeat' split
          all_goals first | exact Sd.refl _ | (exfalso; omega) | assumption | (exact Sc.sd (by assumption)) | simp_all
      · refine x_bipush (pc' := 30) hE dX9_flock_28 rfl (by decide +kernel) ?_
        refine x_iret hE dX9_flock_30 ?_
        refine ⟨ri ?_, ?_⟩
        · first | (exfalso; omega) | skip
          all_goals unfold aFlock
          all_goals repeat' split
          all_goals first | rfl | omega | (exfalso; omega)
        · first | (exfalso; omega) | skip
          unfold sFlock
          repeat' split
          all_goals first | exact Sd.refl _ | (exfalso; omega) | assumption | (exact Sc.sd (by assumption)) | simp_all
    · try simp only [decide_eq_true_eq, decide_eq_false_iff_not] at h4
      refine x_bipush (pc' := 19) hE dX9_flock_17 rfl (by decide +kernel) ?_
      refine x_iret hE dX9_flock_19 ?_
      refine ⟨ri ?_, ?_⟩
      · first | (exfalso; omega) | skip
        all_goals unfold aFlock
        all_goals repeat' split
        all_goals first | rfl | omega | (exfalso; omega)
      · first | (exfalso; omega) | skip
        unfold sFlock
        repeat' split
        all_goals first | exact Sd.refl _ | (exfalso; omega) | assumption | (exact Sc.sd (by assumption)) | simp_all
  · try simp only [decide_eq_true_eq, decide_eq_false_iff_not] at h2
    refine x_bipush (pc' := 9) hE dX9_flock_7 rfl (by decide +kernel) ?_
    refine x_iret hE dX9_flock_9 ?_
    refine ⟨ri ?_, ?_⟩
    · first | (exfalso; omega) | skip
      all_goals unfold aFlock
      all_goals repeat' split
      all_goals first | rfl | omega | (exfalso; omega)
    · first | (exfalso; omega) | skip
      unfold sFlock
      repeat' split
      all_goals first | exact Sd.refl _ | (exfalso; omega) | assumption | (exact Sc.sd (by assumption)) | simp_all
set_option maxHeartbeats 4000000 in
set_option maxRecDepth 10000 in
theorem c_X9_flockOf (l : Launch) (G : GM) (τ : St) (B : Int) (hI : IM B τ) (hB : B ≤ 800000) (f : Int) (hf : inR f) (w : Int) (hw : inR w) : Ct l (YM G) yX9_flockOf (.code yX9_flockOf cX9_flockOf 3 (some .int)) 2 [.ref (aM G 0), .int (iN f), .int (iN w)] τ (fun v τ' => v = some (.int (iN (aFlockOf τ f w))) ∧ Sd τ τ') := by
  refine Ct_of (own := RX9) [some (.ref (aM G 0)), some (.int (iN f)), some (.int (iN w))] rfl rfl (Nat.le_of_ble_eq_true rfl) rfl ?_
  intro E hE hM hl hR
  obtain ⟨hW, hF, hrd, hak, hpl, hpg, hwt, hfr, hsn, hso, hce, hkp, hkk⟩ := hI
  obtain ⟨hnp, hnf, hday, hpp, hff, hcc⟩ := WT_of hW
  obtain ⟨f1, f2⟩ := hf
  obtain ⟨w1, w2⟩ := hw
  refine x_aload_n (pc' := 1) hE dX9_flockOf_0 rfl rfl ?_
  refine x_iload_n (pc' := 2) hE dX9_flockOf_1 rfl rfl ?_
  refine x_cV1 (pc' := 5) hE hM (okM G) hl hR (c_X9_isThere l G _ _ ⟨by omega, by omega⟩ (by omega)) kX9_isThere tM_X9_161 (rcvM hM) (by decide) dX9_flockOf_2 rfl rfl (Nat.le_of_ble_eq_true rfl) (fun σ1 e1 => ?_)
  replace e1 := e1.symm
  subst e1
  refine x_ifneB (tgt := 13) (pc' := 8) hE dX9_flockOf_5 (by decide) rfl (fun h2 => ?_) (fun h2 => ?_)
  · try simp only [decide_eq_true_eq, decide_eq_false_iff_not] at h2
    refine x_iload_n (pc' := 14) hE dX9_flockOf_13 rfl rfl ?_
    refine x_iconst (pc' := 15) hE dX9_flockOf_14 rfl ?_
    refine x_iconst (pc' := 16) hE dX9_flockOf_15 rfl ?_
    refine x_cS1 (pc' := 19) hE hM (okM G) hl hR (c_X9_within l G _ _ _ _ ⟨by omega, by omega⟩ ⟨by omega, by omega⟩ ⟨by omega, by omega⟩) kX9_within tM_X9_75 (by decide) dX9_flockOf_16 rfl rfl (Nat.le_of_ble_eq_true rfl) (fun σ3 e3 => ?_)
    replace e3 := e3.symm
    subst e3
    refine x_ifeqB (tgt := 31) (pc' := 22) hE dX9_flockOf_19 (by decide) rfl (fun h4 => ?_) (fun h4 => ?_)
    · try simp only [decide_eq_true_eq, decide_eq_false_iff_not] at h4
      refine x_bipush (pc' := 33) hE dX9_flockOf_31 rfl (by decide +kernel) ?_
      refine x_iret hE dX9_flockOf_33 ?_
      refine ⟨ri ?_, ?_⟩
      · first | (exfalso; omega) | skip
        first | ((show flN (wv τ) f w = _); unfold aFlockOf; rw [if_neg (by omega), if_pos (by omega)]) | skip
        all_goals unfold aFlockOf
        all_goals repeat' split
        all_goals first | rfl | omega | (exfalso; omega)
      · first | (exfalso; omega) | skip
        all_goals first | exact Sd.refl _ | (exfalso; omega) | assumption | (exact Sc.sd (by assumption)) | simp_all
    · try simp only [decide_eq_true_eq, decide_eq_false_iff_not] at h4
      refine x_aload_n (pc' := 23) hE dX9_flockOf_22 rfl rfl ?_
      refine x_iload_n (pc' := 24) hE dX9_flockOf_23 rfl rfl ?_
      refine x_iload_n (pc' := 25) hE dX9_flockOf_24 rfl rfl ?_
      refine x_cV1 (pc' := 28) hE hM (okM G) hl hR (c_X9_flockNow l G _ _ (by assumption) _ _ (by omega) (by omega) (by omega) (by omega)) kX9_flockNow tM_X9_167 (rcvM hM) (by decide) dX9_flockOf_25 rfl rfl (Nat.le_of_ble_eq_true rfl) (fun σ5 e5 => ?_)
      replace e5 := e5.symm
      subst e5
      refine x_goto (tgt := 33) hE dX9_flockOf_28 (by decide) ?_
      refine x_iret hE dX9_flockOf_33 ?_
      refine ⟨ri ?_, ?_⟩
      · first | (exfalso; omega) | skip
        first | ((show flN (wv τ) f w = _); unfold aFlockOf; rw [if_neg (by omega), if_pos (by omega)]) | skip
        all_goals unfold aFlockOf
        all_goals repeat' split
        all_goals first | rfl | omega | (exfalso; omega)
      · first | (exfalso; omega) | skip
        all_goals first | exact Sd.refl _ | (exfalso; omega) | assumption | (exact Sc.sd (by assumption)) | simp_all
  · try simp only [decide_eq_true_eq, decide_eq_false_iff_not] at h2
    refine x_bipush (pc' := 10) hE dX9_flockOf_8 rfl (by decide +kernel) ?_
    refine x_goto (tgt := 33) hE dX9_flockOf_10 (by decide) ?_
    refine x_iret hE dX9_flockOf_33 ?_
    refine ⟨ri ?_, ?_⟩
    · first | (exfalso; omega) | skip
      first | ((show flN (wv τ) f w = _); unfold aFlockOf; rw [if_neg (by omega), if_pos (by omega)]) | skip
      all_goals unfold aFlockOf
      all_goals repeat' split
      all_goals first | rfl | omega | (exfalso; omega)
    · first | (exfalso; omega) | skip
      all_goals first | exact Sd.refl _ | (exfalso; omega) | assumption | (exact Sc.sd (by assumption)) | simp_all
set_option maxHeartbeats 4000000 in
set_option maxRecDepth 10000 in
theorem c_X9_name (l : Launch) (G : GM) (τ : St) (B : Int) (hI : IM B τ) (hB : B ≤ 800000) (f : Int) (hf : inR f) (n : Int) (hn : inR n) : Ct l (YM G) yX9_name (.code yX9_name cX9_name 4 (some .int)) 3 [.ref (aM G 0), .int (iN f), .int (iN n)] τ (fun v τ' => v = some (.int (iN (aName τ f n))) ∧ Sd (sName τ f n) τ') := by
  refine Ct_of (own := RX9) [some (.ref (aM G 0)), some (.int (iN f)), some (.int (iN n)), none] rfl rfl (Nat.le_of_ble_eq_true rfl) rfl ?_
  intro E hE hM hl hR
  obtain ⟨hW, hF, hrd, hak, hpl, hpg, hwt, hfr, hsn, hso, hce, hkp, hkk⟩ := hI
  obtain ⟨hnp, hnf, hday, hpp, hff, hcc⟩ := WT_of hW
  obtain ⟨f1, f2⟩ := hf
  obtain ⟨n1, n2⟩ := hn
  refine x_aload_n (pc' := 1) hE dX9_name_0 rfl rfl ?_
  refine x_iload_n (pc' := 2) hE dX9_name_1 rfl rfl ?_
  refine x_cV1 (pc' := 5) hE hM (okM G) hl hR (c_X9_isFlock l G _ _ (by assumption) _ ⟨by omega, by omega⟩) kX9_isFlock tM_X9_170 (rcvM hM) (by decide) dX9_name_2 rfl rfl (Nat.le_of_ble_eq_true rfl) (fun σ1 e1 => ?_)
  replace e1 := e1.symm
  subst e1
  refine x_ifneB (tgt := 11) (pc' := 8) hE dX9_name_5 (by decide) rfl (fun h2 => ?_) (fun h2 => ?_)
  · try simp only [decide_eq_true_eq, decide_eq_false_iff_not] at h2
    refine x_iload_n (pc' := 12) hE dX9_name_11 rfl rfl ?_
    refine x_cS1 (pc' := 15) hE hM (okM G) hl hR (c_X9_isName l G _ _ ⟨by omega, by omega⟩) kX9_isName tM_X9_164 (by decide) dX9_name_12 rfl rfl (Nat.le_of_ble_eq_true rfl) (fun σ3 e3 => ?_)
    replace e3 := e3.symm
    subst e3
    refine x_ifneB (tgt := 21) (pc' := 18) hE dX9_name_15 (by decide) rfl (fun h4 => ?_) (fun h4 => ?_)
    · try simp only [decide_eq_true_eq, decide_eq_false_iff_not] at h4
      refine x_aload_n (pc' := 22) hE dX9_name_21 rfl rfl ?_
      refine gM_10 (pc' := 25) hE hM tF_X9_25 dX9_name_22 rfl ?_
      refine x_iload_n (pc' := 26) hE dX9_name_25 rfl rfl ?_
      refine aM_6 (pc' := 27) hE hM (by omega) (by omega) dX9_name_26 rfl ?_
      refine x_istore_n (pc' := 28) hE dX9_name_27 rfl (by decide) rfl rfl ?_
      dsimp only [List.set]
      refine x_aload_n (pc' := 29) hE dX9_name_28 rfl rfl ?_
      refine gM_10 (pc' := 32) hE hM tF_X9_25 dX9_name_29 rfl ?_
      refine x_iload_n (pc' := 33) hE dX9_name_32 rfl rfl ?_
      refine x_iload_n (pc' := 34) hE dX9_name_33 rfl rfl ?_
      refine sM_6 (pc' := 35) hE hM (by omega) (by omega) dX9_name_34 rfl ?_
      refine x_iload_n (pc' := 36) hE dX9_name_35 rfl rfl ?_
      refine x_iret hE dX9_name_36 ?_
      refine ⟨ri ?_, ?_⟩
      · first | (exfalso; omega) | skip
        all_goals unfold aName
        all_goals repeat' split
        all_goals first | rfl | omega | (exfalso; omega)
      · first | (exfalso; omega) | skip
        unfold sName
        repeat' split
        all_goals first | exact Sd.refl _ | (exfalso; omega) | assumption | (exact Sc.sd (by assumption)) | simp_all
    · try simp only [decide_eq_true_eq, decide_eq_false_iff_not] at h4
      refine x_bipush (pc' := 20) hE dX9_name_18 rfl (by decide +kernel) ?_
      refine x_iret hE dX9_name_20 ?_
      refine ⟨ri ?_, ?_⟩
      · first | (exfalso; omega) | skip
        all_goals unfold aName
        all_goals repeat' split
        all_goals first | rfl | omega | (exfalso; omega)
      · first | (exfalso; omega) | skip
        unfold sName
        repeat' split
        all_goals first | exact Sd.refl _ | (exfalso; omega) | assumption | (exact Sc.sd (by assumption)) | simp_all
  · try simp only [decide_eq_true_eq, decide_eq_false_iff_not] at h2
    refine x_bipush (pc' := 10) hE dX9_name_8 rfl (by decide +kernel) ?_
    refine x_iret hE dX9_name_10 ?_
    refine ⟨ri ?_, ?_⟩
    · first | (exfalso; omega) | skip
      all_goals unfold aName
      all_goals repeat' split
      all_goals first | rfl | omega | (exfalso; omega)
    · first | (exfalso; omega) | skip
      unfold sName
      repeat' split
      all_goals first | exact Sd.refl _ | (exfalso; omega) | assumption | (exact Sc.sd (by assumption)) | simp_all
set_option maxHeartbeats 4000000 in
set_option maxRecDepth 10000 in
theorem c_X9_move (l : Launch) (G : GM) (τ : St) (B : Int) (hI : IM B τ) (hB : B ≤ 800000) (f : Int) (hf : inR f) (c : Int) (hc : inR c) : Ct l (YM G) yX9_move (.code yX9_move cX9_move 4 (some .int)) 3 [.ref (aM G 0), .int (iN f), .int (iN c)] τ (fun v τ' => v = some (.int (iN (aMove τ f c))) ∧ Sd (sMove τ f c) τ') := by
  refine Ct_of (own := RX9) [some (.ref (aM G 0)), some (.int (iN f)), some (.int (iN c)), none] rfl rfl (Nat.le_of_ble_eq_true rfl) rfl ?_
  intro E hE hM hl hR
  obtain ⟨hW, hF, hrd, hak, hpl, hpg, hwt, hfr, hsn, hso, hce, hkp, hkk⟩ := hI
  obtain ⟨hnp, hnf, hday, hpp, hff, hcc⟩ := WT_of hW
  obtain ⟨f1, f2⟩ := hf
  obtain ⟨c1, c2⟩ := hc
  refine x_aload_n (pc' := 1) hE dX9_move_0 rfl rfl ?_
  refine x_iload_n (pc' := 2) hE dX9_move_1 rfl rfl ?_
  refine x_cV1 (pc' := 5) hE hM (okM G) hl hR (c_X9_isFlock l G _ _ (by assumption) _ ⟨by omega, by omega⟩) kX9_isFlock tM_X9_170 (rcvM hM) (by decide) dX9_move_2 rfl rfl (Nat.le_of_ble_eq_true rfl) (fun σ1 e1 => ?_)
  replace e1 := e1.symm
  subst e1
  refine x_ifeqB (tgt := 15) (pc' := 8) hE dX9_move_5 (by decide) rfl (fun h2 => ?_) (fun h2 => ?_)
  · try simp only [decide_eq_true_eq, decide_eq_false_iff_not] at h2
    refine x_bipush (pc' := 17) hE dX9_move_15 rfl (by decide +kernel) ?_
    refine x_iret hE dX9_move_17 ?_
    refine ⟨ri ?_, ?_⟩
    · first | (exfalso; omega) | skip
      all_goals unfold aMove
      all_goals repeat' split
      all_goals first | rfl | omega | (exfalso; omega)
    · first | (exfalso; omega) | skip
      unfold sMove
      repeat' split
      all_goals first | exact Sd.refl _ | (exfalso; omega) | assumption | (exact Sc.sd (by assumption)) | simp_all
  · try simp only [decide_eq_true_eq, decide_eq_false_iff_not] at h2
    refine x_iload_n (pc' := 9) hE dX9_move_8 rfl rfl ?_
    refine x_cS1 (pc' := 12) hE hM (okM G) hl hR (c_X9_isCell l G _ _ ⟨by omega, by omega⟩) kX9_isCell tM_X9_119 (by decide) dX9_move_9 rfl rfl (Nat.le_of_ble_eq_true rfl) (fun σ3 e3 => ?_)
    replace e3 := e3.symm
    subst e3
    refine x_ifneB (tgt := 18) (pc' := 15) hE dX9_move_12 (by decide) rfl (fun h4 => ?_) (fun h4 => ?_)
    · try simp only [decide_eq_true_eq, decide_eq_false_iff_not] at h4
      refine x_aload_n (pc' := 19) hE dX9_move_18 rfl rfl ?_
      refine gM_11 (pc' := 22) hE hM tF_X9_28 dX9_move_19 rfl ?_
      refine x_iload_n (pc' := 23) hE dX9_move_22 rfl rfl ?_
      refine aM_7 (pc' := 24) hE hM (by omega) (by omega) dX9_move_23 rfl ?_
      refine x_istore_n (pc' := 25) hE dX9_move_24 rfl (by decide) rfl rfl ?_
      dsimp only [List.set]
      refine x_aload_n (pc' := 26) hE dX9_move_25 rfl rfl ?_
      refine gM_11 (pc' := 29) hE hM tF_X9_28 dX9_move_26 rfl ?_
      refine x_iload_n (pc' := 30) hE dX9_move_29 rfl rfl ?_
      refine x_iload_n (pc' := 31) hE dX9_move_30 rfl rfl ?_
      refine sM_7 (pc' := 32) hE hM (by omega) (by omega) dX9_move_31 rfl ?_
      refine x_iload_n (pc' := 33) hE dX9_move_32 rfl rfl ?_
      refine x_iret hE dX9_move_33 ?_
      refine ⟨ri ?_, ?_⟩
      · first | (exfalso; omega) | skip
        all_goals unfold aMove
        all_goals repeat' split
        all_goals first | rfl | omega | (exfalso; omega)
      · first | (exfalso; omega) | skip
        unfold sMove
        repeat' split
        all_goals first | exact Sd.refl _ | (exfalso; omega) | assumption | (exact Sc.sd (by assumption)) | simp_all
    · try simp only [decide_eq_true_eq, decide_eq_false_iff_not] at h4
      refine x_bipush (pc' := 17) hE dX9_move_15 rfl (by decide +kernel) ?_
      refine x_iret hE dX9_move_17 ?_
      refine ⟨ri ?_, ?_⟩
      · first | (exfalso; omega) | skip
        all_goals unfold aMove
        all_goals repeat' split
        all_goals first | rfl | omega | (exfalso; omega)
      · first | (exfalso; omega) | skip
        unfold sMove
        repeat' split
        all_goals first | exact Sd.refl _ | (exfalso; omega) | assumption | (exact Sc.sd (by assumption)) | simp_all
set_option maxHeartbeats 4000000 in
set_option maxRecDepth 10000 in
theorem c_X9_day (l : Launch) (G : GM) (τ : St) (B : Int) (hI : IM B τ) (hB : B ≤ 800000) : Ct l (YM G) yX9_day (.code yX9_day cX9_day 1 (some .int)) 5 [.ref (aM G 0)] τ (fun v τ' => v = some (.int (iN (aDay τ))) ∧ Sd (goT τ) τ') := by
  refine Ct_of (own := RX9) [some (.ref (aM G 0))] rfl rfl (Nat.le_of_ble_eq_true rfl) rfl ?_
  intro E hE hM hl hR
  obtain ⟨hW, hF, hrd, hak, hpl, hpg, hwt, hfr, hsn, hso, hce, hkp, hkk⟩ := hI
  obtain ⟨hnp, hnf, hday, hpp, hff, hcc⟩ := WT_of hW
  refine x_aload_n (pc' := 1) hE dX9_day_0 rfl rfl ?_
  refine x_cV1 (pc' := 4) hE hM (okM G) hl hR (c_X9_goDay l G _ _ (by assumption) (by omega) (by assumption)) kX9_goDay tM_X9_173 (rcvM hM) (by decide) dX9_day_1 rfl rfl (Nat.le_of_ble_eq_true rfl) (fun σ1 e1 => ?_)
  replace e1 := e1.symm
  subst e1
  refine x_iret hE dX9_day_4 ?_
  refine ⟨ri ?_, ?_⟩
  · first | (exfalso; omega) | skip
    all_goals unfold aDay
    all_goals repeat' split
    all_goals first | rfl | omega | (exfalso; omega)
  · first | (exfalso; omega) | skip
    all_goals first | exact Sd.refl _ | (exfalso; omega) | assumption | (exact Sc.sd (by assumption)) | simp_all
set_option maxHeartbeats 4000000 in
set_option maxRecDepth 10000 in
theorem c_X9_loss (l : Launch) (G : GM) (τ : St) (B : Int) (hI : IM B τ) (hB : B ≤ 800000) (d : Int) (hd : inR d) : Ct l (YM G) yX9_loss (.code yX9_loss cX9_loss 2 (some .int)) 6 [.ref (aM G 0), .int (iN d)] τ (fun v τ' => v = some (.int (iN (aLoss τ d))) ∧ Sd τ τ') := by
  refine Ct_of (own := RX9) [some (.ref (aM G 0)), some (.int (iN d))] rfl rfl (Nat.le_of_ble_eq_true rfl) rfl ?_
  intro E hE hM hl hR
  obtain ⟨hW, hF, hrd, hak, hpl, hpg, hwt, hfr, hsn, hso, hce, hkp, hkk⟩ := hI
  obtain ⟨hnp, hnf, hday, hpp, hff, hcc⟩ := WT_of hW
  obtain ⟨d1, d2⟩ := hd
  refine x_iload_n (pc' := 1) hE dX9_loss_0 rfl rfl ?_
  refine x_iconst (pc' := 2) hE dX9_loss_1 rfl ?_
  refine x_bipush (pc' := 4) hE dX9_loss_2 rfl (by decide +kernel) ?_
  refine x_cS1 (pc' := 7) hE hM (okM G) hl hR (c_X9_within l G _ _ _ _ ⟨by omega, by omega⟩ ⟨by omega, by omega⟩ ⟨by omega, by omega⟩) kX9_within tM_X9_75 (by decide) dX9_loss_4 rfl rfl (Nat.le_of_ble_eq_true rfl) (fun σ1 e1 => ?_)
  replace e1 := e1.symm
  subst e1
  refine x_ifeqB (tgt := 18) (pc' := 10) hE dX9_loss_7 (by decide) rfl (fun h2 => ?_) (fun h2 => ?_)
  · try simp only [decide_eq_true_eq, decide_eq_false_iff_not] at h2
    refine x_bipush (pc' := 20) hE dX9_loss_18 rfl (by decide +kernel) ?_
    refine x_iret hE dX9_loss_20 ?_
    refine ⟨ri ?_, ?_⟩
    · first | (exfalso; omega) | skip
      first | ((show eatN (dN (fv τ) (wv τ) d.toNat) - eatN (wv τ) = _); unfold aLoss; rw [if_pos (by omega)]) | skip
      all_goals unfold aLoss
      all_goals repeat' split
      all_goals first | rfl | omega | (exfalso; omega)
    · first | (exfalso; omega) | skip
      all_goals first | exact Sd.refl _ | (exfalso; omega) | assumption | (exact Sc.sd (by assumption)) | simp_all
  · try simp only [decide_eq_true_eq, decide_eq_false_iff_not] at h2
    refine x_aload_n (pc' := 11) hE dX9_loss_10 rfl rfl ?_
    refine x_iload_n (pc' := 12) hE dX9_loss_11 rfl rfl ?_
    refine x_cV1 (pc' := 15) hE hM (okM G) hl hR (c_X9_lossNow l G _ _ (by assumption) (by omega) (by assumption) _ (by omega) (by omega)) kX9_lossNow tM_X9_189 (rcvM hM) (by decide) dX9_loss_12 rfl rfl (Nat.le_of_ble_eq_true rfl) (fun σ3 e3 => ?_)
    have hsc := e3.sd
    refine x_goto (tgt := 20) hE dX9_loss_15 (by decide) ?_
    refine x_iret hE dX9_loss_20 ?_
    refine ⟨ri ?_, ?_⟩
    · first | (exfalso; omega) | skip
      first | ((show eatN (dN (fv τ) (wv τ) d.toNat) - eatN (wv τ) = _); unfold aLoss; rw [if_pos (by omega)]) | skip
      all_goals unfold aLoss
      all_goals repeat' split
      all_goals first | rfl | omega | (exfalso; omega)
    · first | (exfalso; omega) | skip
      all_goals first | exact Sd.refl _ | (exfalso; omega) | assumption | (exact Sc.sd (by assumption)) | simp_all
set_option maxHeartbeats 4000000 in
set_option maxRecDepth 10000 in
theorem c_X9_falls (l : Launch) (G : GM) (τ : St) (B : Int) (hI : IM B τ) (hB : B ≤ 800000) (f : Int) (hf : inR f) : Ct l (YM G) yX9_falls (.code yX9_falls cX9_falls 2 (some .int)) 7 [.ref (aM G 0), .int (iN f)] τ (fun v τ' => v = some (.int (iN (aFalls τ f))) ∧ Sd τ τ') := by
  refine Ct_of (own := RX9) [some (.ref (aM G 0)), some (.int (iN f))] rfl rfl (Nat.le_of_ble_eq_true rfl) rfl ?_
  intro E hE hM hl hR
  obtain ⟨hW, hF, hrd, hak, hpl, hpg, hwt, hfr, hsn, hso, hce, hkp, hkk⟩ := hI
  obtain ⟨hnp, hnf, hday, hpp, hff, hcc⟩ := WT_of hW
  obtain ⟨f1, f2⟩ := hf
  refine x_aload_n (pc' := 1) hE dX9_falls_0 rfl rfl ?_
  refine x_iload_n (pc' := 2) hE dX9_falls_1 rfl rfl ?_
  refine x_cV1 (pc' := 5) hE hM (okM G) hl hR (c_X9_isFlock l G _ _ (by assumption) _ ⟨by omega, by omega⟩) kX9_isFlock tM_X9_170 (rcvM hM) (by decide) dX9_falls_2 rfl rfl (Nat.le_of_ble_eq_true rfl) (fun σ1 e1 => ?_)
  replace e1 := e1.symm
  subst e1
  refine x_ifeqB (tgt := 16) (pc' := 8) hE dX9_falls_5 (by decide) rfl (fun h2 => ?_) (fun h2 => ?_)
  · try simp only [decide_eq_true_eq, decide_eq_false_iff_not] at h2
    refine x_bipush (pc' := 18) hE dX9_falls_16 rfl (by decide +kernel) ?_
    refine x_iret hE dX9_falls_18 ?_
    refine ⟨ri ?_, ?_⟩
    · first | (exfalso; omega) | skip
      first | ((show fallK (fv τ) (wv τ) f 60 1 = _); unfold aFalls; rw [if_neg (by omega)]) | skip
      all_goals unfold aFalls
      all_goals repeat' split
      all_goals first | rfl | omega | (exfalso; omega)
    · first | (exfalso; omega) | skip
      all_goals first | exact Sd.refl _ | (exfalso; omega) | assumption | (exact Sc.sd (by assumption)) | simp_all
  · try simp only [decide_eq_true_eq, decide_eq_false_iff_not] at h2
    refine x_aload_n (pc' := 9) hE dX9_falls_8 rfl rfl ?_
    refine x_iload_n (pc' := 10) hE dX9_falls_9 rfl rfl ?_
    refine x_cV1 (pc' := 13) hE hM (okM G) hl hR (c_X9_fallsNow l G _ _ (by assumption) (by omega) (by assumption) _ (by omega) (by omega)) kX9_fallsNow tM_X9_195 (rcvM hM) (by decide) dX9_falls_10 rfl rfl (Nat.le_of_ble_eq_true rfl) (fun σ3 e3 => ?_)
    have hsc := e3.sd
    refine x_goto (tgt := 18) hE dX9_falls_13 (by decide) ?_
    refine x_iret hE dX9_falls_18 ?_
    refine ⟨ri ?_, ?_⟩
    · first | (exfalso; omega) | skip
      first | ((show fallK (fv τ) (wv τ) f 60 1 = _); unfold aFalls; rw [if_neg (by omega)]) | skip
      all_goals unfold aFalls
      all_goals repeat' split
      all_goals first | rfl | omega | (exfalso; omega)
    · first | (exfalso; omega) | skip
      all_goals first | exact Sd.refl _ | (exfalso; omega) | assumption | (exact Sc.sd (by assumption)) | simp_all
set_option maxHeartbeats 4000000 in
set_option maxRecDepth 10000 in
theorem c_X9_safe (l : Launch) (G : GM) (τ : St) (B : Int) (hI : IM B τ) (hB : B ≤ 800000) (f : Int) (hf : inR f) (d : Int) (hd : inR d) : Ct l (YM G) yX9_safe (.code yX9_safe cX9_safe 3 (some .int)) 7 [.ref (aM G 0), .int (iN f), .int (iN d)] τ (fun v τ' => v = some (.int (iN (aSafe τ f d))) ∧ Sd τ τ') := by
  refine Ct_of (own := RX9) [some (.ref (aM G 0)), some (.int (iN f)), some (.int (iN d))] rfl rfl (Nat.le_of_ble_eq_true rfl) rfl ?_
  intro E hE hM hl hR
  obtain ⟨hW, hF, hrd, hak, hpl, hpg, hwt, hfr, hsn, hso, hce, hkp, hkk⟩ := hI
  obtain ⟨hnp, hnf, hday, hpp, hff, hcc⟩ := WT_of hW
  obtain ⟨f1, f2⟩ := hf
  obtain ⟨d1, d2⟩ := hd
  refine x_aload_n (pc' := 1) hE dX9_safe_0 rfl rfl ?_
  refine x_iload_n (pc' := 2) hE dX9_safe_1 rfl rfl ?_
  refine x_cV1 (pc' := 5) hE hM (okM G) hl hR (c_X9_isFlock l G _ _ (by assumption) _ ⟨by omega, by omega⟩) kX9_isFlock tM_X9_170 (rcvM hM) (by decide) dX9_safe_2 rfl rfl (Nat.le_of_ble_eq_true rfl) (fun σ1 e1 => ?_)
  replace e1 := e1.symm
  subst e1
  refine x_ifneB (tgt := 11) (pc' := 8) hE dX9_safe_5 (by decide) rfl (fun h2 => ?_) (fun h2 => ?_)
  · try simp only [decide_eq_true_eq, decide_eq_false_iff_not] at h2
    refine x_iload_n (pc' := 12) hE dX9_safe_11 rfl rfl ?_
    refine x_iconst (pc' := 13) hE dX9_safe_12 rfl ?_
    refine x_bipush (pc' := 15) hE dX9_safe_13 rfl (by decide +kernel) ?_
    refine x_cS1 (pc' := 18) hE hM (okM G) hl hR (c_X9_within l G _ _ _ _ ⟨by omega, by omega⟩ ⟨by omega, by omega⟩ ⟨by omega, by omega⟩) kX9_within tM_X9_75 (by decide) dX9_safe_15 rfl rfl (Nat.le_of_ble_eq_true rfl) (fun σ3 e3 => ?_)
    replace e3 := e3.symm
    subst e3
    refine x_ifeqB (tgt := 30) (pc' := 21) hE dX9_safe_18 (by decide) rfl (fun h4 => ?_) (fun h4 => ?_)
    · try simp only [decide_eq_true_eq, decide_eq_false_iff_not] at h4
      refine x_bipush (pc' := 32) hE dX9_safe_30 rfl (by decide +kernel) ?_
      refine x_iret hE dX9_safe_32 ?_
      refine ⟨ri ?_, ?_⟩
      · first | (exfalso; omega) | skip
        first | ((show safeN (fv τ) (wv τ) f d.toNat = _); unfold aSafe; rw [if_neg (by omega), if_pos (by omega)]) | skip
        all_goals unfold aSafe
        all_goals repeat' split
        all_goals first | rfl | omega | (exfalso; omega)
      · first | (exfalso; omega) | skip
        all_goals first | exact Sd.refl _ | (exfalso; omega) | assumption | (exact Sc.sd (by assumption)) | simp_all
    · try simp only [decide_eq_true_eq, decide_eq_false_iff_not] at h4
      refine x_aload_n (pc' := 22) hE dX9_safe_21 rfl rfl ?_
      refine x_iload_n (pc' := 23) hE dX9_safe_22 rfl rfl ?_
      refine x_iload_n (pc' := 24) hE dX9_safe_23 rfl rfl ?_
      refine x_cV1 (pc' := 27) hE hM (okM G) hl hR (c_X9_safeNow l G _ _ (by assumption) (by omega) (by assumption) _ _ (by omega) (by omega) (by omega) (by omega)) kX9_safeNow tM_X9_198 (rcvM hM) (by decide) dX9_safe_24 rfl rfl (Nat.le_of_ble_eq_true rfl) (fun σ5 e5 => ?_)
      have hsc := e5.sd
      refine x_goto (tgt := 32) hE dX9_safe_27 (by decide) ?_
      refine x_iret hE dX9_safe_32 ?_
      refine ⟨ri ?_, ?_⟩
      · first | (exfalso; omega) | skip
        first | ((show safeN (fv τ) (wv τ) f d.toNat = _); unfold aSafe; rw [if_neg (by omega), if_pos (by omega)]) | skip
        all_goals unfold aSafe
        all_goals repeat' split
        all_goals first | rfl | omega | (exfalso; omega)
      · first | (exfalso; omega) | skip
        all_goals first | exact Sd.refl _ | (exfalso; omega) | assumption | (exact Sc.sd (by assumption)) | simp_all
  · try simp only [decide_eq_true_eq, decide_eq_false_iff_not] at h2
    refine x_bipush (pc' := 10) hE dX9_safe_8 rfl (by decide +kernel) ?_
    refine x_iret hE dX9_safe_10 ?_
    refine ⟨ri ?_, ?_⟩
    · first | (exfalso; omega) | skip
      first | ((show safeN (fv τ) (wv τ) f d.toNat = _); unfold aSafe; rw [if_neg (by omega), if_pos (by omega)]) | skip
      all_goals unfold aSafe
      all_goals repeat' split
      all_goals first | rfl | omega | (exfalso; omega)
    · first | (exfalso; omega) | skip
      all_goals first | exact Sd.refl _ | (exfalso; omega) | assumption | (exact Sc.sd (by assumption)) | simp_all
set_option maxHeartbeats 4000000 in
set_option maxRecDepth 10000 in
theorem c_X9_nail (l : Launch) (G : GM) (τ : St) (B : Int) (hI : IM B τ) (hB : B ≤ 800000) (p : Int) (hp : inR p) (w : Int) (hw : inR w) : Ct l (YM G) yX9_nail (.code yX9_nail cX9_nail 3 (some .int)) 4 [.ref (aM G 0), .int (iN p), .int (iN w)] τ (fun v τ' => v = some (.int (iN (aNail τ p w))) ∧ Sd τ τ') := by
  refine Ct_of (own := RX9) [some (.ref (aM G 0)), some (.int (iN p)), some (.int (iN w))] rfl rfl (Nat.le_of_ble_eq_true rfl) rfl ?_
  intro E hE hM hl hR
  obtain ⟨hW, hF, hrd, hak, hpl, hpg, hwt, hfr, hsn, hso, hce, hkp, hkk⟩ := hI
  obtain ⟨hnp, hnf, hday, hpp, hff, hcc⟩ := WT_of hW
  obtain ⟨p1, p2⟩ := hp
  obtain ⟨w1, w2⟩ := hw
  refine x_aload_n (pc' := 1) hE dX9_nail_0 rfl rfl ?_
  refine x_iload_n (pc' := 2) hE dX9_nail_1 rfl rfl ?_
  refine x_cV1 (pc' := 5) hE hM (okM G) hl hR (c_X9_isPack l G _ _ ⟨by omega, by omega⟩ (by omega)) kX9_isPack tM_X9_155 (rcvM hM) (by decide) dX9_nail_2 rfl rfl (Nat.le_of_ble_eq_true rfl) (fun σ1 e1 => ?_)
  replace e1 := e1.symm
  subst e1
  refine x_ifneB (tgt := 11) (pc' := 8) hE dX9_nail_5 (by decide) rfl (fun h2 => ?_) (fun h2 => ?_)
  · try simp only [decide_eq_true_eq, decide_eq_false_iff_not] at h2
    refine x_iload_n (pc' := 12) hE dX9_nail_11 rfl rfl ?_
    refine x_iconst (pc' := 13) hE dX9_nail_12 rfl ?_
    refine x_iconst (pc' := 14) hE dX9_nail_13 rfl ?_
    refine x_cS1 (pc' := 17) hE hM (okM G) hl hR (c_X9_within l G _ _ _ _ ⟨by omega, by omega⟩ ⟨by omega, by omega⟩ ⟨by omega, by omega⟩) kX9_within tM_X9_75 (by decide) dX9_nail_14 rfl rfl (Nat.le_of_ble_eq_true rfl) (fun σ3 e3 => ?_)
    replace e3 := e3.symm
    subst e3
    refine x_ifeqB (tgt := 29) (pc' := 20) hE dX9_nail_17 (by decide) rfl (fun h4 => ?_) (fun h4 => ?_)
    · try simp only [decide_eq_true_eq, decide_eq_false_iff_not] at h4
      refine x_bipush (pc' := 31) hE dX9_nail_29 rfl (by decide +kernel) ?_
      refine x_iret hE dX9_nail_31 ?_
      refine ⟨ri ?_, ?_⟩
      · first | (exfalso; omega) | skip
        first | ((show nailN (fv τ) (τ 3 0 0 p) (τ 5 0 0 p) (τ 0 0 0 3) w = _); unfold aNail; rw [if_neg (by omega), if_pos (by omega)]) | skip
        all_goals unfold aNail
        all_goals repeat' split
        all_goals first | rfl | omega | (exfalso; omega)
      · first | (exfalso; omega) | skip
        all_goals first | exact Sd.refl _ | (exfalso; omega) | assumption | (exact Sc.sd (by assumption)) | simp_all
    · try simp only [decide_eq_true_eq, decide_eq_false_iff_not] at h4
      refine x_aload_n (pc' := 21) hE dX9_nail_20 rfl rfl ?_
      refine x_iload_n (pc' := 22) hE dX9_nail_21 rfl rfl ?_
      refine x_iload_n (pc' := 23) hE dX9_nail_22 rfl rfl ?_
      refine x_cV1 (pc' := 26) hE hM (okM G) hl hR (c_X9_nailNow l G _ _ (by assumption) (by omega) (by assumption) _ _ (by omega) (by omega) (by omega) (by omega)) kX9_nailNow tM_X9_217 (rcvM hM) (by decide) dX9_nail_23 rfl rfl (Nat.le_of_ble_eq_true rfl) (fun σ5 e5 => ?_)
      replace e5 := e5.symm
      subst e5
      refine x_goto (tgt := 31) hE dX9_nail_26 (by decide) ?_
      refine x_iret hE dX9_nail_31 ?_
      refine ⟨ri ?_, ?_⟩
      · first | (exfalso; omega) | skip
        first | ((show nailN (fv τ) (τ 3 0 0 p) (τ 5 0 0 p) (τ 0 0 0 3) w = _); unfold aNail; rw [if_neg (by omega), if_pos (by omega)]) | skip
        all_goals unfold aNail
        all_goals repeat' split
        all_goals first | rfl | omega | (exfalso; omega)
      · first | (exfalso; omega) | skip
        all_goals first | exact Sd.refl _ | (exfalso; omega) | assumption | (exact Sc.sd (by assumption)) | simp_all
  · try simp only [decide_eq_true_eq, decide_eq_false_iff_not] at h2
    refine x_bipush (pc' := 10) hE dX9_nail_8 rfl (by decide +kernel) ?_
    refine x_iret hE dX9_nail_10 ?_
    refine ⟨ri ?_, ?_⟩
    · first | (exfalso; omega) | skip
      first | ((show nailN (fv τ) (τ 3 0 0 p) (τ 5 0 0 p) (τ 0 0 0 3) w = _); unfold aNail; rw [if_neg (by omega), if_pos (by omega)]) | skip
      all_goals unfold aNail
      all_goals repeat' split
      all_goals first | rfl | omega | (exfalso; omega)
    · first | (exfalso; omega) | skip
      all_goals first | exact Sd.refl _ | (exfalso; omega) | assumption | (exact Sc.sd (by assumption)) | simp_all
set_option maxHeartbeats 4000000 in
set_option maxRecDepth 10000 in
theorem c_X9_watch (l : Launch) (G : GM) (τ : St) (B : Int) (hI : IM B τ) (hB : B ≤ 800000) (p : Int) (hp : inR p) : Ct l (YM G) yX9_watch (.code yX9_watch cX9_watch 3 (some .int)) 2 [.ref (aM G 0), .int (iN p)] τ (fun v τ' => v = some (.int (iN (aWatch τ p))) ∧ Sd (sWatch τ p) τ') := by
  refine Ct_of (own := RX9) [some (.ref (aM G 0)), some (.int (iN p)), none] rfl rfl (Nat.le_of_ble_eq_true rfl) rfl ?_
  intro E hE hM hl hR
  obtain ⟨hW, hF, hrd, hak, hpl, hpg, hwt, hfr, hsn, hso, hce, hkp, hkk⟩ := hI
  obtain ⟨hnp, hnf, hday, hpp, hff, hcc⟩ := WT_of hW
  obtain ⟨p1, p2⟩ := hp
  refine x_aload_n (pc' := 1) hE dX9_watch_0 rfl rfl ?_
  refine x_iload_n (pc' := 2) hE dX9_watch_1 rfl rfl ?_
  refine x_cV1 (pc' := 5) hE hM (okM G) hl hR (c_X9_isPack l G _ _ ⟨by omega, by omega⟩ (by omega)) kX9_isPack tM_X9_155 (rcvM hM) (by decide) dX9_watch_2 rfl rfl (Nat.le_of_ble_eq_true rfl) (fun σ1 e1 => ?_)
  replace e1 := e1.symm
  subst e1
  refine x_ifneB (tgt := 11) (pc' := 8) hE dX9_watch_5 (by decide) rfl (fun h2 => ?_) (fun h2 => ?_)
  · try simp only [decide_eq_true_eq, decide_eq_false_iff_not] at h2
    refine x_aload_n (pc' := 12) hE dX9_watch_11 rfl rfl ?_
    refine gM_15 (pc' := 15) hE hM tF_X9_220 dX9_watch_12 rfl ?_
    try rw [up_s]
    repeat rw [up_n (by omega)]
    refine x_istore_n (pc' := 16) hE dX9_watch_15 rfl (by decide) rfl rfl ?_
    dsimp only [List.set]
    refine x_aload_n (pc' := 17) hE dX9_watch_16 rfl rfl ?_
    refine x_iload_n (pc' := 18) hE dX9_watch_17 rfl rfl ?_
    refine pM_13 (pc' := 21) hE hM tF_X9_34 dX9_watch_18 rfl ?_
    refine x_aload_n (pc' := 22) hE dX9_watch_21 rfl rfl ?_
    refine x_aload_n (pc' := 23) hE dX9_watch_22 rfl rfl ?_
    refine gM_3 (pc' := 26) hE hM tF_X9_146 dX9_watch_23 rfl ?_
    try rw [up_s]
    repeat rw [up_n (by omega)]
    refine pM_14 (pc' := 29) hE hM tF_X9_223 dX9_watch_26 rfl ?_
    refine x_aload_n (pc' := 30) hE dX9_watch_29 rfl rfl ?_
    refine x_iconst (pc' := 31) hE dX9_watch_30 rfl ?_
    refine pM_15 (pc' := 34) hE hM tF_X9_220 dX9_watch_31 rfl ?_
    refine x_iload_n (pc' := 35) hE dX9_watch_34 rfl rfl ?_
    refine x_iret hE dX9_watch_35 ?_
    refine ⟨ri ?_, ?_⟩
    · first | (exfalso; omega) | skip
      all_goals unfold aWatch
      all_goals repeat' split
      all_goals first | rfl | omega | (exfalso; omega)
    · first | (exfalso; omega) | skip
      unfold sWatch
      repeat' split
      all_goals first | exact Sd.refl _ | (exfalso; omega) | assumption | (exact Sc.sd (by assumption)) | simp_all
  · try simp only [decide_eq_true_eq, decide_eq_false_iff_not] at h2
    refine x_bipush (pc' := 10) hE dX9_watch_8 rfl (by decide +kernel) ?_
    refine x_iret hE dX9_watch_10 ?_
    refine ⟨ri ?_, ?_⟩
    · first | (exfalso; omega) | skip
      all_goals unfold aWatch
      all_goals repeat' split
      all_goals first | rfl | omega | (exfalso; omega)
    · first | (exfalso; omega) | skip
      unfold sWatch
      repeat' split
      all_goals first | exact Sd.refl _ | (exfalso; omega) | assumption | (exact Sc.sd (by assumption)) | simp_all
set_option maxHeartbeats 4000000 in
set_option maxRecDepth 10000 in
theorem c_X9_seen (l : Launch) (G : GM) (τ : St) (B : Int) (hI : IM B τ) (hB : B ≤ 800000) (b : Bool) : Ct l (YM G) yX9_seen (.code yX9_seen cX9_seen 2 (some .int)) 1 [.ref (aM G 0), .int (bI b)] τ (fun v τ' => v = some (.int (iN (aSeen τ))) ∧ Sd (sSeen τ b) τ') := by
  refine Ct_of (own := RX9) [some (.ref (aM G 0)), some (.int (bI b))] rfl rfl (Nat.le_of_ble_eq_true rfl) rfl ?_
  intro E hE hM hl hR
  obtain ⟨hW, hF, hrd, hak, hpl, hpg, hwt, hfr, hsn, hso, hce, hkp, hkk⟩ := hI
  obtain ⟨hnp, hnf, hday, hpp, hff, hcc⟩ := WT_of hW
  refine x_aload_n (pc' := 1) hE dX9_seen_0 rfl rfl ?_
  refine gM_13 (pc' := 4) hE hM tF_X9_34 dX9_seen_1 rfl ?_
  try rw [up_s]
  repeat rw [up_n (by omega)]
  refine x_iconst (pc' := 5) hE dX9_seen_4 rfl ?_
  refine x_icmpne (tgt := 11) (pc' := 8) hE dX9_seen_5 (by decide) rfl ⟨by omega, by omega⟩ ⟨by omega, by omega⟩ (fun h1 => ?_) (fun h1 => ?_)
  · refine x_aload_n (pc' := 12) hE dX9_seen_11 rfl rfl ?_
    refine gM_15 (pc' := 15) hE hM tF_X9_220 dX9_seen_12 rfl ?_
    try rw [up_s]
    repeat rw [up_n (by omega)]
    refine x_bipush (pc' := 17) hE dX9_seen_15 rfl (by decide +kernel) ?_
    refine x_icmpne (tgt := 23) (pc' := 20) hE dX9_seen_17 (by decide) rfl ⟨by omega, by omega⟩ ⟨by omega, by omega⟩ (fun h2 => ?_) (fun h2 => ?_)
    · refine x_aload_n (pc' := 24) hE dX9_seen_23 rfl rfl ?_
      refine gM_16 (pc' := 27) hE hM tF_X9_38 dX9_seen_24 rfl ?_
      refine x_aload_n (pc' := 28) hE dX9_seen_27 rfl rfl ?_
      refine gM_15 (pc' := 31) hE hM tF_X9_220 dX9_seen_28 rfl ?_
      try rw [up_s]
      repeat rw [up_n (by omega)]
      refine x_iload_n (pc' := 32) hE dX9_seen_31 rfl rfl ?_
      refine x_ifeqB (tgt := 39) (pc' := 35) hE dX9_seen_32 (by decide) rfl (fun h3 => ?_) (fun h3 => ?_)
      · try simp only [decide_eq_true_eq, decide_eq_false_iff_not] at h3
        subst h3
        refine x_iconst (pc' := 40) hE dX9_seen_39 rfl ?_
        refine sM_9 (pc' := 41) hE hM (by omega) (by omega) dX9_seen_40 rfl ?_
        refine x_aload_n (pc' := 42) hE dX9_seen_41 rfl rfl ?_
        refine x_dup (pc' := 43) hE dX9_seen_42 rfl rfl ?_
        refine gM_15 (pc' := 46) hE hM tF_X9_220 dX9_seen_43 rfl ?_
        try rw [up_s]
        repeat rw [up_n (by omega)]
        refine x_iconst (pc' := 47) hE dX9_seen_46 rfl ?_
        refine x_iadd (pc' := 48) hE dX9_seen_47 rfl ?_
        refine pM_15 (pc' := 51) hE hM tF_X9_220 dX9_seen_48 rfl ?_
        refine x_aload_n (pc' := 52) hE dX9_seen_51 rfl rfl ?_
        refine gM_15 (pc' := 55) hE hM tF_X9_220 dX9_seen_52 rfl ?_
        try rw [up_s]
        repeat rw [up_n (by omega)]
        refine x_iret hE dX9_seen_55 ?_
        refine ⟨ri ?_, ?_⟩
        · first | (exfalso; omega) | skip
          all_goals unfold aSeen
          all_goals repeat' split
          all_goals first | rfl | omega | (exfalso; omega)
        · first | (exfalso; omega) | skip
          unfold sSeen
          repeat' split
          all_goals first | exact Sd.refl _ | (exfalso; omega) | assumption | (exact Sc.sd (by assumption)) | simp_all
      · try simp only [decide_eq_true_eq, decide_eq_false_iff_not] at h3
        subst h3
        refine x_iconst (pc' := 36) hE dX9_seen_35 rfl ?_
        refine x_goto (tgt := 40) hE dX9_seen_36 (by decide) ?_
        refine sM_9 (pc' := 41) hE hM (by omega) (by omega) dX9_seen_40 rfl ?_
        refine x_aload_n (pc' := 42) hE dX9_seen_41 rfl rfl ?_
        refine x_dup (pc' := 43) hE dX9_seen_42 rfl rfl ?_
        refine gM_15 (pc' := 46) hE hM tF_X9_220 dX9_seen_43 rfl ?_
        try rw [up_s]
        repeat rw [up_n (by omega)]
        refine x_iconst (pc' := 47) hE dX9_seen_46 rfl ?_
        refine x_iadd (pc' := 48) hE dX9_seen_47 rfl ?_
        refine pM_15 (pc' := 51) hE hM tF_X9_220 dX9_seen_48 rfl ?_
        refine x_aload_n (pc' := 52) hE dX9_seen_51 rfl rfl ?_
        refine gM_15 (pc' := 55) hE hM tF_X9_220 dX9_seen_52 rfl ?_
        try rw [up_s]
        repeat rw [up_n (by omega)]
        refine x_iret hE dX9_seen_55 ?_
        refine ⟨ri ?_, ?_⟩
        · first | (exfalso; omega) | skip
          all_goals unfold aSeen
          all_goals repeat' split
          all_goals first | rfl | omega | (exfalso; omega)
        · first | (exfalso; omega) | skip
          unfold sSeen
          repeat' split
          all_goals first | exact Sd.refl _ | (exfalso; omega) | assumption | (exact Sc.sd (by assumption)) | simp_all
    · refine x_bipush (pc' := 22) hE dX9_seen_20 rfl (by decide +kernel) ?_
      refine x_iret hE dX9_seen_22 ?_
      refine ⟨ri ?_, ?_⟩
      · first | (exfalso; omega) | skip
        all_goals unfold aSeen
        all_goals repeat' split
        all_goals first | rfl | omega | (exfalso; omega)
      · first | (exfalso; omega) | skip
        unfold sSeen
        repeat' split
        all_goals first | exact Sd.refl _ | (exfalso; omega) | assumption | (exact Sc.sd (by assumption)) | simp_all
  · refine x_bipush (pc' := 10) hE dX9_seen_8 rfl (by decide +kernel) ?_
    refine x_iret hE dX9_seen_10 ?_
    refine ⟨ri ?_, ?_⟩
    · first | (exfalso; omega) | skip
      all_goals unfold aSeen
      all_goals repeat' split
      all_goals first | rfl | omega | (exfalso; omega)
    · first | (exfalso; omega) | skip
      unfold sSeen
      repeat' split
      all_goals first | exact Sd.refl _ | (exfalso; omega) | assumption | (exact Sc.sd (by assumption)) | simp_all
set_option maxHeartbeats 4000000 in
set_option maxRecDepth 10000 in
theorem c_X9_fits (l : Launch) (G : GM) (τ : St) (B : Int) (hI : IM B τ) (hB : B ≤ 800000) (w : Int) (hw : inR w) : Ct l (YM G) yX9_fits (.code yX9_fits cX9_fits 2 (some .int)) 4 [.ref (aM G 0), .int (iN w)] τ (fun v τ' => v = some (.int (iN (aFits τ w))) ∧ Sd τ τ') := by
  refine Ct_of (own := RX9) [some (.ref (aM G 0)), some (.int (iN w))] rfl rfl (Nat.le_of_ble_eq_true rfl) rfl ?_
  intro E hE hM hl hR
  obtain ⟨hW, hF, hrd, hak, hpl, hpg, hwt, hfr, hsn, hso, hce, hkp, hkk⟩ := hI
  obtain ⟨hnp, hnf, hday, hpp, hff, hcc⟩ := WT_of hW
  obtain ⟨w1, w2⟩ := hw
  refine x_iload_n (pc' := 1) hE dX9_fits_0 rfl rfl ?_
  refine x_iconst (pc' := 2) hE dX9_fits_1 rfl ?_
  refine x_iconst (pc' := 3) hE dX9_fits_2 rfl ?_
  refine x_cS1 (pc' := 6) hE hM (okM G) hl hR (c_X9_within l G _ _ _ _ ⟨by omega, by omega⟩ ⟨by omega, by omega⟩ ⟨by omega, by omega⟩) kX9_within tM_X9_75 (by decide) dX9_fits_3 rfl rfl (Nat.le_of_ble_eq_true rfl) (fun σ1 e1 => ?_)
  replace e1 := e1.symm
  subst e1
  refine x_ifneB (tgt := 12) (pc' := 9) hE dX9_fits_6 (by decide) rfl (fun h2 => ?_) (fun h2 => ?_)
  · try simp only [decide_eq_true_eq, decide_eq_false_iff_not] at h2
    refine x_aload_n (pc' := 13) hE dX9_fits_12 rfl rfl ?_
    refine gM_13 (pc' := 16) hE hM tF_X9_34 dX9_fits_13 rfl ?_
    refine x_iconst (pc' := 17) hE dX9_fits_16 rfl ?_
    refine x_icmpne (tgt := 25) (pc' := 20) hE dX9_fits_17 (by decide) rfl ⟨by omega, by omega⟩ ⟨by omega, by omega⟩ (fun h3 => ?_) (fun h3 => ?_)
    · refine x_aload_n (pc' := 26) hE dX9_fits_25 rfl rfl ?_
      refine x_iload_n (pc' := 27) hE dX9_fits_26 rfl rfl ?_
      refine x_cV1 (pc' := 30) hE hM (okM G) hl hR (c_X9_fitsNow l G _ _ (by assumption) (by omega) (by assumption) (by omega) (by omega) (by omega) hso _ (by omega) (by omega)) kX9_fitsNow tM_X9_229 (rcvM hM) (by decide) dX9_fits_27 rfl rfl (Nat.le_of_ble_eq_true rfl) (fun σ4 e4 => ?_)
      replace e4 := e4.symm
      subst e4
      refine x_iret hE dX9_fits_30 ?_
      refine ⟨ri ?_, ?_⟩
      · first | (exfalso; omega) | skip
        first | ((show fitW (fv τ) (τ 2 0 0 (τ 4 0 0 (τ 0 0 0 13))) (τ 5 0 0 (τ 0 0 0 13)) (τ 0 0 0 14) (τ 9 0 0) (τ 0 0 0 15).toNat w = _); unfold aFits; rw [if_neg (by omega), if_neg (by omega)]) | skip
        all_goals unfold aFits
        all_goals repeat' split
        all_goals first | rfl | omega | (exfalso; omega)
      · first | (exfalso; omega) | skip
        all_goals first | exact Sd.refl _ | (exfalso; omega) | assumption | (exact Sc.sd (by assumption)) | simp_all
    · refine x_bipush (pc' := 22) hE dX9_fits_20 rfl (by decide +kernel) ?_
      refine x_goto (tgt := 30) hE dX9_fits_22 (by decide) ?_
      refine x_iret hE dX9_fits_30 ?_
      refine ⟨ri ?_, ?_⟩
      · first | (exfalso; omega) | skip
        first | ((show fitW (fv τ) (τ 2 0 0 (τ 4 0 0 (τ 0 0 0 13))) (τ 5 0 0 (τ 0 0 0 13)) (τ 0 0 0 14) (τ 9 0 0) (τ 0 0 0 15).toNat w = _); unfold aFits; rw [if_neg (by omega), if_neg (by omega)]) | skip
        all_goals unfold aFits
        all_goals repeat' split
        all_goals first | rfl | omega | (exfalso; omega)
      · first | (exfalso; omega) | skip
        all_goals first | exact Sd.refl _ | (exfalso; omega) | assumption | (exact Sc.sd (by assumption)) | simp_all
  · try simp only [decide_eq_true_eq, decide_eq_false_iff_not] at h2
    refine x_bipush (pc' := 11) hE dX9_fits_9 rfl (by decide +kernel) ?_
    refine x_iret hE dX9_fits_11 ?_
    refine ⟨ri ?_, ?_⟩
    · first | (exfalso; omega) | skip
      first | ((show fitW (fv τ) (τ 2 0 0 (τ 4 0 0 (τ 0 0 0 13))) (τ 5 0 0 (τ 0 0 0 13)) (τ 0 0 0 14) (τ 9 0 0) (τ 0 0 0 15).toNat w = _); unfold aFits; rw [if_neg (by omega), if_neg (by omega)]) | skip
      all_goals unfold aFits
      all_goals repeat' split
      all_goals first | rfl | omega | (exfalso; omega)
    · first | (exfalso; omega) | skip
      all_goals first | exact Sd.refl _ | (exfalso; omega) | assumption | (exact Sc.sd (by assumption)) | simp_all
set_option maxHeartbeats 4000000 in
set_option maxRecDepth 10000 in
theorem c_X9_years (l : Launch) (G : GM) (τ : St) (B : Int) (hI : IM B τ) (hB : B ≤ 800000) (d : Int) (hd : inR d) (s : Int) (hs : inR s) (w : Int) (hw : inR w) : Ct l (YM G) yX9_years (.code yX9_years cX9_years 4 (some .int)) 6 [.ref (aM G 0), .int (iN d), .int (iN s), .int (iN w)] τ (fun v τ' => v = some (.int (iN (aYears τ d s w))) ∧ Sd τ τ') := by
  refine Ct_of (own := RX9) [some (.ref (aM G 0)), some (.int (iN d)), some (.int (iN s)), some (.int (iN w))] rfl rfl (Nat.le_of_ble_eq_true rfl) rfl ?_
  intro E hE hM hl hR
  obtain ⟨hW, hF, hrd, hak, hpl, hpg, hwt, hfr, hsn, hso, hce, hkp, hkk⟩ := hI
  obtain ⟨hnp, hnf, hday, hpp, hff, hcc⟩ := WT_of hW
  obtain ⟨d1, d2⟩ := hd
  obtain ⟨s1, s2⟩ := hs
  obtain ⟨w1, w2⟩ := hw
  refine x_iload_n (pc' := 1) hE dX9_years_0 rfl rfl ?_
  refine x_iconst (pc' := 2) hE dX9_years_1 rfl ?_
  refine x_bipush (pc' := 4) hE dX9_years_2 rfl (by decide +kernel) ?_
  refine x_cS1 (pc' := 7) hE hM (okM G) hl hR (c_X9_within l G _ _ _ _ ⟨by omega, by omega⟩ ⟨by omega, by omega⟩ ⟨by omega, by omega⟩) kX9_within tM_X9_75 (by decide) dX9_years_4 rfl rfl (Nat.le_of_ble_eq_true rfl) (fun σ1 e1 => ?_)
  replace e1 := e1.symm
  subst e1
  refine x_ifeqB (tgt := 33) (pc' := 10) hE dX9_years_7 (by decide) rfl (fun h2 => ?_) (fun h2 => ?_)
  · try simp only [decide_eq_true_eq, decide_eq_false_iff_not] at h2
    refine x_bipush (pc' := 35) hE dX9_years_33 rfl (by decide +kernel) ?_
    refine x_iret hE dX9_years_35 ?_
    refine ⟨ri ?_, ?_⟩
    · first | (exfalso; omega) | skip
      first | (unfold aYears; rw [if_pos (c := (1 ≤ d ∧ d ≤ 60) ∧ 0 ≤ s ∧ 0 ≤ w ∧ w ≤ 1) (by omega)]) | skip
      all_goals unfold aYears
      all_goals repeat' split
      all_goals first | rfl | omega | (exfalso; omega)
    · first | (exfalso; omega) | skip
      all_goals first | exact Sd.refl _ | (exfalso; omega) | assumption | (exact Sc.sd (by assumption)) | simp_all
  · try simp only [decide_eq_true_eq, decide_eq_false_iff_not] at h2
    refine x_iload_n (pc' := 11) hE dX9_years_10 rfl rfl ?_
    refine x_iflt (tgt := 33) (pc' := 14) hE dX9_years_11 (by decide) rfl ⟨by omega, by omega⟩ (fun h3 => ?_) (fun h3 => ?_)
    · refine x_bipush (pc' := 35) hE dX9_years_33 rfl (by decide +kernel) ?_
      refine x_iret hE dX9_years_35 ?_
      refine ⟨ri ?_, ?_⟩
      · first | (exfalso; omega) | skip
        first | (unfold aYears; rw [if_pos (c := (1 ≤ d ∧ d ≤ 60) ∧ 0 ≤ s ∧ 0 ≤ w ∧ w ≤ 1) (by omega)]) | skip
        all_goals unfold aYears
        all_goals repeat' split
        all_goals first | rfl | omega | (exfalso; omega)
      · first | (exfalso; omega) | skip
        all_goals first | exact Sd.refl _ | (exfalso; omega) | assumption | (exact Sc.sd (by assumption)) | simp_all
    · refine x_iload_n (pc' := 15) hE dX9_years_14 rfl rfl ?_
      refine x_iconst (pc' := 16) hE dX9_years_15 rfl ?_
      refine x_iconst (pc' := 17) hE dX9_years_16 rfl ?_
      refine x_cS1 (pc' := 20) hE hM (okM G) hl hR (c_X9_within l G _ _ _ _ ⟨by omega, by omega⟩ ⟨by omega, by omega⟩ ⟨by omega, by omega⟩) kX9_within tM_X9_75 (by decide) dX9_years_17 rfl rfl (Nat.le_of_ble_eq_true rfl) (fun σ4 e4 => ?_)
      replace e4 := e4.symm
      subst e4
      refine x_ifeqB (tgt := 33) (pc' := 23) hE dX9_years_20 (by decide) rfl (fun h5 => ?_) (fun h5 => ?_)
      · try simp only [decide_eq_true_eq, decide_eq_false_iff_not] at h5
        refine x_bipush (pc' := 35) hE dX9_years_33 rfl (by decide +kernel) ?_
        refine x_iret hE dX9_years_35 ?_
        refine ⟨ri ?_, ?_⟩
        · first | (exfalso; omega) | skip
          first | (unfold aYears; rw [if_pos (c := (1 ≤ d ∧ d ≤ 60) ∧ 0 ≤ s ∧ 0 ≤ w ∧ w ≤ 1) (by omega)]) | skip
          all_goals unfold aYears
          all_goals repeat' split
          all_goals first | rfl | omega | (exfalso; omega)
        · first | (exfalso; omega) | skip
          all_goals first | exact Sd.refl _ | (exfalso; omega) | assumption | (exact Sc.sd (by assumption)) | simp_all
      · try simp only [decide_eq_true_eq, decide_eq_false_iff_not] at h5
        refine x_aload_n (pc' := 24) hE dX9_years_23 rfl rfl ?_
        refine x_iload_n (pc' := 25) hE dX9_years_24 rfl rfl ?_
        refine x_iload_n (pc' := 26) hE dX9_years_25 rfl rfl ?_
        refine x_iload_n (pc' := 27) hE dX9_years_26 rfl rfl ?_
        refine x_cV1 (pc' := 30) hE hM (okM G) hl hR (c_X9_yearsNow l G _ _ (by assumption) (by omega) (by assumption) _ _ _ (by omega) (by omega) (by omega) (by omega) (by omega) (by omega)) kX9_yearsNow tM_X9_247 (rcvM hM) (by decide) dX9_years_27 rfl rfl (Nat.le_of_ble_eq_true rfl) (fun σ6 e6 => ?_)
        have hsc := e6.sd
        refine x_goto (tgt := 35) hE dX9_years_30 (by decide) ?_
        refine x_iret hE dX9_years_35 ?_
        refine ⟨ri ?_, ?_⟩
        · first | (exfalso; omega) | skip
          first | (unfold aYears; rw [if_pos (c := (1 ≤ d ∧ d ≤ 60) ∧ 0 ≤ s ∧ 0 ≤ w ∧ w ≤ 1) (by omega)]) | skip
          all_goals unfold aYears
          all_goals repeat' split
          all_goals first | rfl | omega | (exfalso; omega)
        · first | (exfalso; omega) | skip
          all_goals first | exact Sd.refl _ | (exfalso; omega) | assumption | (exact Sc.sd (by assumption)) | simp_all
set_option maxHeartbeats 4000000 in
set_option maxRecDepth 10000 in
theorem c_X9_count (l : Launch) (G : GM) (τ : St) (B : Int) (hI : IM B τ) (hB : B ≤ 800000) (w : Int) (hw : inR w) : Ct l (YM G) yX9_count (.code yX9_count cX9_count 2 (some .int)) 2 [.ref (aM G 0), .int (iN w)] τ (fun v τ' => v = some (.int (iN (aCount τ w))) ∧ Sd τ τ') := by
  refine Ct_of (own := RX9) [some (.ref (aM G 0)), some (.int (iN w))] rfl rfl (Nat.le_of_ble_eq_true rfl) rfl ?_
  intro E hE hM hl hR
  obtain ⟨hW, hF, hrd, hak, hpl, hpg, hwt, hfr, hsn, hso, hce, hkp, hkk⟩ := hI
  obtain ⟨hnp, hnf, hday, hpp, hff, hcc⟩ := WT_of hW
  obtain ⟨w1, w2⟩ := hw
  refine x_aload_n (pc' := 1) hE dX9_count_0 rfl rfl ?_
  refine x_iload_n (pc' := 2) hE dX9_count_1 rfl rfl ?_
  refine x_cV1 (pc' := 5) hE hM (okM G) hl hR (c_X9_howMany l G _ _ (by assumption) _ ⟨by omega, by omega⟩) kX9_howMany tM_X9_274 (rcvM hM) (by decide) dX9_count_2 rfl rfl (Nat.le_of_ble_eq_true rfl) (fun σ1 e1 => ?_)
  replace e1 := e1.symm
  subst e1
  refine x_iret hE dX9_count_5 ?_
  refine ⟨ri ?_, ?_⟩
  · first | (exfalso; omega) | skip
    all_goals unfold aCount
    all_goals repeat' split
    all_goals first | rfl | omega | (exfalso; omega)
  · first | (exfalso; omega) | skip
    all_goals first | exact Sd.refl _ | (exfalso; omega) | assumption | (exact Sc.sd (by assumption)) | simp_all
set_option maxHeartbeats 4000000 in
set_option maxRecDepth 10000 in
theorem c_X9_fault (l : Launch) (G : GM) (τ : St) (B : Int) (hI : IM B τ) (hB : B ≤ 800000) : Ct l (YM G) yX9_fault (.code yX9_fault cX9_fault 1 (some .int)) 4 [.ref (aM G 0)] τ (fun v τ' => v = some (.int (iN (aFault τ))) ∧ Sd τ τ') := by
  refine Ct_of (own := RX9) [some (.ref (aM G 0))] rfl rfl (Nat.le_of_ble_eq_true rfl) rfl ?_
  intro E hE hM hl hR
  obtain ⟨hW, hF, hrd, hak, hpl, hpg, hwt, hfr, hsn, hso, hce, hkp, hkk⟩ := hI
  obtain ⟨hnp, hnf, hday, hpp, hff, hcc⟩ := WT_of hW
  refine x_aload_n (pc' := 1) hE dX9_fault_0 rfl rfl ?_
  refine x_cV0 (pc' := 4) hE hM (okM G) hl hR (c_X9_readFeasts l G _ hpl hpg) kX9_readFeasts tM_X9_99 (rcvM hM) (by decide) dX9_fault_1 rfl rfl (Nat.le_of_ble_eq_true rfl) (fun σ1 e1 => ?_)
  obtain ⟨hd, h20, h21, h22⟩ := e1
  generalize σ1 = S at *
  refine x_aload_n (pc' := 5) hE dX9_fault_4 rfl rfl ?_
  refine gM_20 (pc' := 8) hE hM tF_X9_92 dX9_fault_5 rfl ?_
  refine x_iret hE dX9_fault_8 ?_
  refine ⟨ri ?_, hd⟩
  rw [h20]
  rfl
def fcA (σ : St) (k : Int) : St := fun a b c d => if a = 1 ∧ b = 0 ∧ c = 0 ∧ 0 ≤ d ∧ d < k then σ 11 0 0 d else σ a b c d
theorem fcA_0 (σ : St) : fcA σ 0 = σ := by
  funext a b c d
  unfold fcA
  rw [if_neg (by omega)]
theorem fcA_r {σ : St} {k : Int} {a : Nat} (b : Nat) (c d : Int) (h : a ≠ 1) : fcA σ k a b c d = σ a b c d := by
  unfold fcA
  rw [if_neg (by omega)]
theorem fcA_s (σ : St) {k : Int} (h : 0 ≤ k) : fcA σ (k + 1) = up (fcA σ k) 1 0 0 k (fcA σ k 11 0 0 k) := by
  funext a b c d
  rw [fcA_r (a := 11) _ _ _ (by decide)]
  by_cases e : a = 1 ∧ b = 0 ∧ c = 0 ∧ d = k
  · obtain ⟨rfl, rfl, rfl, rfl⟩ := e
    rw [up_s]
    unfold fcA
    rw [if_pos (by omega)]
  · rw [up_n e]
    unfold fcA
    by_cases q : a = 1 ∧ b = 0 ∧ c = 0 ∧ 0 ≤ d ∧ d < k
    · rw [if_pos q, if_pos (by omega)]
    · rw [if_neg q, if_neg (by omega)]
theorem Sd_feB {τ S : St} (hn : 0 ≤ τ 0 0 0 18 ∧ τ 0 0 0 18 ≤ 23) (hd : Sd τ S) (hP : PI (τ 10 0 0) (τ 0 0 0 18) S) : Sd (sFeB τ) (up (up (fcA (up S 0 0 0 1 (S 0 0 0 22)) 6) 0 0 0 0 (S 0 0 0 0 + 1)) 0 0 0 18 0) := by
  obtain ⟨p1, p2, -⟩ := hP
  intro k j hr
  have e1 : sFeB τ 0 0 0 1 = (τ 0 0 0 18 + 1) / 4 := by
    unfold sFeB
    rw [if_neg (by omega), up_n (by omega), up_n (by omega), up_s]
  unfold relD at hr
  rw [e1] at hr
  have h00 := hd.at 0 0 (by omega)
  by_cases k1 : k = 1
  · subst k1
    rw [up_n (by omega), up_n (by omega)]
    unfold fcA sFeB
    rw [if_pos (by omega), if_pos (by omega), up_n (by omega)]
    exact p2 j (by omega) (by omega)
  · have es : sFeB τ k 0 0 j = up (up (up τ 0 0 0 1 ((τ 0 0 0 18 + 1) / 4)) 0 0 0 0 (τ 0 0 0 0 + 1)) 0 0 0 18 0 k 0 0 j := by
      unfold sFeB
      rw [if_neg (by omega)]
    rw [es]
    by_cases k18 : k = 0 ∧ j = 18
    · obtain ⟨rfl, rfl⟩ := k18
      rw [up_s, up_s]
    · rw [up_n (by omega), up_n (σ := up (up τ 0 0 0 1 ((τ 0 0 0 18 + 1) / 4)) 0 0 0 0 (τ 0 0 0 0 + 1)) (by omega)]
      by_cases k0 : k = 0 ∧ j = 0
      · obtain ⟨rfl, rfl⟩ := k0
        rw [up_s, up_s, h00]
      · rw [up_n (by omega), up_n (σ := up τ 0 0 0 1 ((τ 0 0 0 18 + 1) / 4)) (by omega), fcA_r _ _ _ k1]
        by_cases k2 : k = 0 ∧ j = 1
        · obtain ⟨rfl, rfl⟩ := k2
          rw [up_s, up_s, p1]
        · rw [up_n (by omega), up_n (by omega)]
          exact hd.at k j (by omega)
set_option maxHeartbeats 4000000 in
set_option maxRecDepth 10000 in
theorem c_X9_feasts (l : Launch) (G : GM) (τ : St) (B : Int) (hI : IM B τ) (hB : B ≤ 800000) : Ct l (YM G) yX9_feasts (.code yX9_feasts cX9_feasts 2 (some .int)) 4 [.ref (aM G 0)] τ (fun v τ' => v = some (.int (iN (aFeasts τ))) ∧ Sd (sFeasts τ) τ') := by
  refine Ct_of (own := RX9) [some (.ref (aM G 0)), none] rfl rfl (Nat.le_of_ble_eq_true rfl) rfl ?_
  intro E hE hM hl hR
  obtain ⟨hW, hF, hrd, hak, hpl, hpg, hwt, hfr, hsn, hso, hce, hkp, hkk⟩ := hI
  obtain ⟨hnp, hnf, hday, hpp, hff, hcc⟩ := WT_of hW
  have loop : ∀ (S : St), Sd τ S → PI (τ 10 0 0) (τ 0 0 0 18) S → whl (τ 10 0 0) (τ 0 0 0 18) = true → ∀ (n : Nat) (k : Int), 0 ≤ k → k ≤ 6 → 6 - k = n → VV E 2 (AS (YM G)) (Qm (YM G) (fun v τ' => v = some (.int (iN (aFeasts τ))) ∧ Sd (sFeasts τ) τ') E) (Rh (YM G) (fcA (up S 0 0 0 1 (S 0 0 0 22)) k)) 24 [some (.ref (aM G 0)), some (.int (iN (k)))] [] := by
    intro S hd hP hw n
    induction n using Nat.strongRecOn with
    | _ n ih =>
    intro k g0 g1 g2
    refine x_iload_n (pc' := 25) hE dX9_feasts_24 rfl rfl ?_
    refine x_bipush (pc' := 27) hE dX9_feasts_25 rfl (by decide +kernel) ?_
    refine x_icmpge (tgt := 48) (pc' := 30) hE dX9_feasts_27 (by decide) rfl ⟨by omega, by omega⟩ ⟨by omega, by omega⟩ (fun h1 => ?_) (fun h1 => ?_)
    · refine x_aload_n (pc' := 49) hE dX9_feasts_48 rfl rfl ?_
      refine x_dup (pc' := 50) hE dX9_feasts_49 rfl rfl ?_
      refine gM_0 (pc' := 53) hE hM tF_X9_105 dX9_feasts_50 rfl ?_
      refine x_iconst (pc' := 54) hE dX9_feasts_53 rfl ?_
      refine x_iadd (pc' := 55) hE dX9_feasts_54 rfl ?_
      refine pM_0 (pc' := 58) hE hM tF_X9_105 dX9_feasts_55 rfl ?_
      refine x_aload_n (pc' := 59) hE dX9_feasts_58 rfl rfl ?_
      refine x_iconst (pc' := 60) hE dX9_feasts_59 rfl ?_
      refine pM_18 (pc' := 63) hE hM tF_X9_79 dX9_feasts_60 rfl ?_
      refine x_aload_n (pc' := 64) hE dX9_feasts_63 rfl rfl ?_
      refine gM_1 (pc' := 67) hE hM tF_X9_102 dX9_feasts_64 rfl ?_
      refine x_iret hE dX9_feasts_67 ?_
      have e : k = 6 := by omega
      subst e
      have hw2 := hw
      simp only [whl, Bool.and_eq_true, decide_eq_true_eq] at hw2
      have q0 : fcA (up S 0 0 0 1 (S 0 0 0 22)) 6 0 0 0 0 = S 0 0 0 0 := by
        unfold fcA
        rw [if_neg (by omega), up_n (by omega)]
      rw [q0]
      refine ⟨ri ?_, ?_⟩
      · rw [up_n (by omega), up_n (by omega)]
        unfold fcA
        rw [if_neg (by omega), up_s, hP.1, aFeasts, if_pos hw]
      · rw [sFeasts, if_pos hw]
        exact Sd_feB (by omega) hd hP
    · refine x_aload_n (pc' := 31) hE dX9_feasts_30 rfl rfl ?_
      refine gM_2 (pc' := 34) hE hM tF_X9_7 dX9_feasts_31 rfl ?_
      refine x_iload_n (pc' := 35) hE dX9_feasts_34 rfl rfl ?_
      refine x_aload_n (pc' := 36) hE dX9_feasts_35 rfl rfl ?_
      refine gM_23 (pc' := 39) hE hM tF_X9_45 dX9_feasts_36 rfl ?_
      refine x_iload_n (pc' := 40) hE dX9_feasts_39 rfl rfl ?_
      refine aM_11 (pc' := 41) hE hM (by omega) (by omega) dX9_feasts_40 rfl ?_
      refine sM_1 (pc' := 42) hE hM (by omega) (by omega) dX9_feasts_41 rfl ?_
      refine x_iinc (pc' := 45) hE dX9_feasts_42 rfl rfl (by decide) rfl rfl ?_
      dsimp only [List.set]
      refine x_goto (tgt := 24) hE dX9_feasts_45 (by decide) ?_
      rw [← fcA_s _ g0]
      exact ih (n - 1) (by omega) (k + 1) (by omega) (by omega) (by omega)
  refine x_aload_n (pc' := 1) hE dX9_feasts_0 rfl rfl ?_
  refine x_cV0 (pc' := 4) hE hM (okM G) hl hR (c_X9_readFeasts l G _ hpl hpg) kX9_readFeasts tM_X9_99 (rcvM hM) (by decide) dX9_feasts_1 rfl rfl (Nat.le_of_ble_eq_true rfl) (fun σ2 e2 => ?_)
  obtain ⟨hd, h20, h21, h22⟩ := e2
  generalize σ2 = S at *
  refine x_aload_n (pc' := 5) hE dX9_feasts_4 rfl rfl ?_
  refine gM_21 (pc' := 8) hE hM tF_X9_95 dX9_feasts_5 rfl ?_
  have hwb : (if whl (τ 10 0 0) (τ 0 0 0 18) then (1 : Int) else 0) = 0 ∨ whl (τ 10 0 0) (τ 0 0 0 18) = true := by cases whl (τ 10 0 0) (τ 0 0 0 18) <;> simp
  have hwi : inR (if whl (τ 10 0 0) (τ 0 0 0 18) then (1 : Int) else 0) := by unfold inR; split <;> omega
  rw [h21]
  refine x_ifne (tgt := 14) (pc' := 11) hE dX9_feasts_8 (by decide) rfl hwi (fun h3 => ?_) (fun h3 => ?_)
  · refine x_aload_n (pc' := 15) hE dX9_feasts_14 rfl rfl ?_
    refine x_aload_n (pc' := 16) hE dX9_feasts_15 rfl rfl ?_
    refine gM_22 (pc' := 19) hE hM tF_X9_82 dX9_feasts_16 rfl ?_
    refine pM_1 (pc' := 22) hE hM tF_X9_102 dX9_feasts_19 rfl ?_
    refine x_iconst (pc' := 23) hE dX9_feasts_22 rfl ?_
    refine x_istore_n (pc' := 24) hE dX9_feasts_23 rfl (by decide) rfl rfl ?_
    dsimp only [List.set]
    have hw : whl (τ 10 0 0) (τ 0 0 0 18) = true := by
      rcases hwb with q | q
      · exact absurd q (by assumption)
      · exact q
    rw [← fcA_0 (up S 0 0 0 1 (S 0 0 0 22))]
    exact loop S hd (h22 hw) hw 6 0 (by omega) (by omega) (by omega)
  · refine x_bipush (pc' := 13) hE dX9_feasts_11 rfl (by decide +kernel) ?_
    refine x_iret hE dX9_feasts_13 ?_
    have hw : ¬ whl (τ 10 0 0) (τ 0 0 0 18) = true := by
      intro q
      rw [q] at h3
      exact absurd h3 (by decide)
    refine ⟨ri ?_, ?_⟩
    · rw [aFeasts, if_neg hw]
    · rw [sFeasts, if_neg hw]
      exact hd
