theorem prey_nf {F : Int → Bool} {W : Wd} {D : Int} (h : WOk D W) (p d : Int) : -1 ≤ prey F W p d ∧ prey F W p d ≤ 4 := by
  have h1 := prey_bd (F := F) h p d
  have h2 := h.2.1
  omega
theorem eatP_bd {W : Wd} {D : Int} (h : WOk D W) (p : Int) : 0 ≤ eatP W p ∧ eatP W p ≤ 5 := by
  have := cntU_bd (fun f => decide (W 6 f = p)) (W 0 1).toNat
  have h2 := h.2.1
  unfold eatP
  omega
theorem pkN_bd {F : Int → Bool} {W : Wd} {D p : Int} (h : WOk D W) (p0 : 0 ≤ p) (p1 : p < 4) (wh : Int) : -2 ≤ pkN F W p wh ∧ pkN F W p wh ≤ D + 400 := by
  have h3 := h.2.2.1
  have h4 := h.2.2.2.1 p p0 p1
  have h5 := h.2.2.2.2.2 (W 2 p) (by omega) (by omega)
  have h6 := prey_nf (F := F) h p (W 0 2)
  have h7 := eatP_bd h p
  have h8 := rdB_bd (k := W 1 p) (f := W 7 (W 2 p)) (g := W 3 p) (d := W 0 2) (by omega) (by omega) (by omega)
  unfold pkN
  repeat' split
  all_goals omega
theorem flN_bd {W : Wd} {D f : Int} (h : WOk D W) (f0 : 0 ≤ f) (f1 : f < 5) (wh : Int) : -1 ≤ flN W f wh ∧ flN W f wh ≤ 9 := by
  have h4 := h.2.2.2.2.1 f f0 f1
  unfold flN
  repeat' split
  all_goals omega
theorem fgN_bd (W : Wd) : 0 ≤ fgN W ∧ fgN W ≤ 8 := cntU_bd (fun c => decide (W 7 c ≠ 0)) 8
def dyN (F : Int → Bool) (z wh : Int) : Int := if wh = 0 then z % 7 else if wh = 1 then z % 30 % 10 else if wh = 2 then (if F z then 1 else 0) else z / 30
theorem dyN_bd (F : Int → Bool) {z : Int} (h : 0 ≤ z) (wh : Int) : 0 ≤ dyN F z wh ∧ dyN F z wh ≤ z + 10 := by
  unfold dyN
  repeat' split
  all_goals omega
def mixU (f : Int → Int) : Nat → Int → Int
  | 0, h => h
  | n + 1, h => 31 * mixU f n h + f n
theorem mixU_s (f : Int → Int) {k : Int} (h0 : 0 ≤ k) (h : Int) : mixU f (k + 1).toNat h = 31 * mixU f k.toNat h + f k := by
  rw [show (k + 1).toNat = k.toNat + 1 by omega, mixU, Int.toNat_of_nonneg h0]
def flM (F : Int → Bool) (W : Wd) (f h : Int) : Int := if W 6 f = -1 then 31 * mixU (flN W f) 4 h + fallK F W f 60 1 else mixU (flN W f) 4 h
def dgP (F : Int → Bool) (W : Wd) : Nat → Int → Int
  | 0, h => h
  | n + 1, h => 31 * (31 * mixU (pkN F W n) 7 (dgP F W n h) + nailN F (W 1 n) (W 3 n) (W 0 2) 0) + nailN F (W 1 n) (W 3 n) (W 0 2) 1
theorem dgP_s (F : Int → Bool) (W : Wd) {k : Int} (h0 : 0 ≤ k) (h : Int) : dgP F W (k + 1).toNat h = 31 * (31 * mixU (pkN F W k) 7 (dgP F W k.toNat h) + nailN F (W 1 k) (W 3 k) (W 0 2) 0) + nailN F (W 1 k) (W 3 k) (W 0 2) 1 := by
  rw [show (k + 1).toNat = k.toNat + 1 by omega, dgP, Int.toNat_of_nonneg h0]
def dgF (F : Int → Bool) (W : Wd) : Nat → Int → Int
  | 0, h => h
  | n + 1, h => flM F W n (dgF F W n h)
theorem dgF_s (F : Int → Bool) (W : Wd) {k : Int} (h0 : 0 ≤ k) (h : Int) : dgF F W (k + 1).toNat h = flM F W k (dgF F W k.toNat h) := by
  rw [show (k + 1).toNat = k.toNat + 1 by omega, dgF, Int.toNat_of_nonneg h0]
def dg4 (F : Int → Bool) (W : Wd) : Int := dgF F W (W 0 1).toNat (dgP F W (W 0 0).toNat (mixU (fun c => W 7 c) 8 (mixU (dyN F (W 0 2)) 4 743)))
def dg5 (F : Int → Bool) (W : Wd) : Int := 31 * dg4 F W + (eatN (dN F W 30) - eatN W)
def dg6 (F : Int → Bool) (W : Wd) (wt fr sn : Int) (S : Int → Int) : Int := if wt = -1 then dg5 F W else 31 * (31 * dg5 F W + fitW F (W 7 (W 2 wt)) (W 3 wt) fr S sn.toNat 0) + fitW F (W 7 (W 2 wt)) (W 3 wt) fr S sn.toNat 1
def dgM (F : Int → Bool) (W : Wd) (fn pn rd ak wt fr sn : Int) (S pg : Int → Int) : Int := mixU (cnN W fn pn rd ak sn) 10 (mixU pg pn.toNat (dg6 F W wt fr sn S))
theorem nailN_bd (F : Int → Bool) (k g d wh : Int) : -1 ≤ nailN F k g d wh ∧ nailN F k g d wh ≤ 30 := by
  have hb := nailA_bd (g := nailG F k g d) (fun v => nailG_bd _ _ _ _ v) 30
  unfold nailN
  split <;> omega
theorem fitW_bd (F : Int → Bool) (fg g fr : Int) (S : Int → Int) (n : Nat) (wh : Int) : -2147483648 ≤ fitW F fg g fr S n wh ∧ fitW F fg g fr S n wh < 2147483648 := inR_of _
theorem Sd_up42 (τ : St) (v : Int) : Sd τ (up τ 0 0 0 42 v) := fun k j hr => by
  unfold relD at hr
  exact up_n (by omega)
theorem cnN_bd {W : Wd} {D fn pn rd ak sn : Int} (h : WOk D W) (hD : D ≤ 900000) (h1 : 0 ≤ fn ∧ fn ≤ 6) (h2 : 0 ≤ pn ∧ pn ≤ 24) (h3 : 0 ≤ rd ∧ rd ≤ 900000) (h4 : 0 ≤ ak ∧ ak ≤ 900000) (h5 : 0 ≤ sn ∧ sn ≤ 8) (wh : Int) : -102 ≤ cnN W fn pn rd ak sn wh ∧ cnN W fn pn rd ak sn wh ≤ 900000 := by
  have a := h.1
  have b := h.2.1
  have c := h.2.2.1
  have d := eatN_bd h
  have e := fgN_bd W
  unfold cnN
  repeat' split
  all_goals omega
set_option maxHeartbeats 4000000 in
set_option maxRecDepth 10000 in
theorem c_X9_packNow (l : Launch) (G : GM) (τ : St) (D : Int) (hW : WOk D (wv τ)) (hD : D ≤ 900000) (hF : FOk (τ 0 0 0 1) (τ 1 0 0)) (p wh : Int) (p0 : 0 ≤ p) (p1 : p < 4) (w0 : 0 ≤ wh) (w1 : wh ≤ 6) : Ct l (YM G) yX9_packNow (.code yX9_packNow cX9_packNow 3 (some .int)) 4 [.ref (aM G 0), .int (iN p), .int (iN wh)] τ (fun v τ' => v = some (.int (iN (pkN (fv τ) (wv τ) p wh))) ∧ τ' = τ) := by
  refine Ct_of (own := RX9) [some (.ref (aM G 0)), some (.int (iN p)), some (.int (iN wh))] rfl rfl (Nat.le_of_ble_eq_true rfl) rfl ?_
  intro E hE hM hl hR
  obtain ⟨hnp, hnf, hday, hpp, hff, hcc⟩ := WT_of hW
  
  refine x_iload_n (pc' := 1) hE dX9_packNow_0 rfl rfl ?_
  rcases (show wh = 0 ∨ wh = 1 ∨ wh = 2 ∨ wh = 3 ∨ wh = 4 ∨ wh = 5 ∨ (wh < 0 ∨ 5 < wh) by omega) with h1 | h1 | h1 | h1 | h1 | h1 | h1
  · refine x_tabIn (tgt := 40) (off := 39) hE dX9_packNow_1 ⟨by omega, by omega⟩ (by omega) (by omega) (by rw [h1]; rfl) (by decide) ?_
    refine x_aload_n (pc' := 41) hE dX9_packNow_40 rfl rfl ?_
    refine gM_6 (pc' := 44) hE hM tF_X9_16 dX9_packNow_41 rfl ?_
    refine x_iload_n (pc' := 45) hE dX9_packNow_44 rfl rfl ?_
    refine aM_3 (pc' := 46) hE hM (by omega) (by omega) dX9_packNow_45 rfl ?_
    refine x_iret hE dX9_packNow_46 ?_
    refine ⟨ri ?_, rfl⟩
    unfold pkN
    first | (subst h1; rfl) | (rw [if_neg (by omega), if_neg (by omega), if_neg (by omega), if_neg (by omega), if_neg (by omega), if_neg (by omega)])
  · refine x_tabIn (tgt := 47) (off := 46) hE dX9_packNow_1 ⟨by omega, by omega⟩ (by omega) (by omega) (by rw [h1]; rfl) (by decide) ?_
    refine x_aload_n (pc' := 48) hE dX9_packNow_47 rfl rfl ?_
    refine gM_7 (pc' := 51) hE hM tF_X9_19 dX9_packNow_48 rfl ?_
    refine x_iload_n (pc' := 52) hE dX9_packNow_51 rfl rfl ?_
    refine aM_4 (pc' := 53) hE hM (by omega) (by omega) dX9_packNow_52 rfl ?_
    refine x_iret hE dX9_packNow_53 ?_
    refine ⟨ri ?_, rfl⟩
    unfold pkN
    first | (subst h1; rfl) | (rw [if_neg (by omega), if_neg (by omega), if_neg (by omega), if_neg (by omega), if_neg (by omega), if_neg (by omega)])
  · refine x_tabIn (tgt := 54) (off := 53) hE dX9_packNow_1 ⟨by omega, by omega⟩ (by omega) (by omega) (by rw [h1]; rfl) (by decide) ?_
    refine x_aload_n (pc' := 55) hE dX9_packNow_54 rfl rfl ?_
    refine gM_8 (pc' := 58) hE hM tF_X9_22 dX9_packNow_55 rfl ?_
    refine x_iload_n (pc' := 59) hE dX9_packNow_58 rfl rfl ?_
    refine aM_5 (pc' := 60) hE hM (by omega) (by omega) dX9_packNow_59 rfl ?_
    refine x_iret hE dX9_packNow_60 ?_
    refine ⟨ri ?_, rfl⟩
    unfold pkN
    first | (subst h1; rfl) | (rw [if_neg (by omega), if_neg (by omega), if_neg (by omega), if_neg (by omega), if_neg (by omega), if_neg (by omega)])
  · refine x_tabIn (tgt := 61) (off := 60) hE dX9_packNow_1 ⟨by omega, by omega⟩ (by omega) (by omega) (by rw [h1]; rfl) (by decide) ?_
    refine x_aload_n (pc' := 62) hE dX9_packNow_61 rfl rfl ?_
    refine x_iload_n (pc' := 63) hE dX9_packNow_62 rfl rfl ?_
    refine x_aload_n (pc' := 64) hE dX9_packNow_63 rfl rfl ?_
    refine gM_3 (pc' := 67) hE hM tF_X9_146 dX9_packNow_64 rfl ?_
    refine x_cV1 (pc' := 70) hE hM (okM G) hl hR (c_X9_readsNow l G _ _ (by assumption) (by omega) (by assumption) _ _ (by omega) (by omega) (by omega) (by omega)) kX9_readsNow tM_X9_140 (rcvM hM) (by decide) dX9_packNow_67 rfl rfl (Nat.le_of_ble_eq_true rfl) (fun σ2 e2 => ?_)
    replace e2 := e2.symm
    subst e2
    refine x_iret hE dX9_packNow_70 ?_
    refine ⟨ri ?_, rfl⟩
    unfold pkN
    first | (subst h1; rfl) | (rw [if_neg (by omega), if_neg (by omega), if_neg (by omega), if_neg (by omega), if_neg (by omega), if_neg (by omega)])
  · refine x_tabIn (tgt := 71) (off := 70) hE dX9_packNow_1 ⟨by omega, by omega⟩ (by omega) (by omega) (by rw [h1]; rfl) (by decide) ?_
    refine x_aload_n (pc' := 72) hE dX9_packNow_71 rfl rfl ?_
    refine x_iload_n (pc' := 73) hE dX9_packNow_72 rfl rfl ?_
    refine x_aload_n (pc' := 74) hE dX9_packNow_73 rfl rfl ?_
    refine gM_3 (pc' := 77) hE hM tF_X9_146 dX9_packNow_74 rfl ?_
    refine x_cV1 (pc' := 80) hE hM (okM G) hl hR (c_X9_fasts l G _ _ (by assumption) (by omega) (by assumption) _ _ (by omega) (by omega) (by omega) (by omega)) kX9_fasts tM_X9_136 (rcvM hM) (by decide) dX9_packNow_77 rfl rfl (Nat.le_of_ble_eq_true rfl) (fun σ3 e3 => ?_)
    replace e3 := e3.symm
    subst e3
    refine x_ifeqB (tgt := 87) (pc' := 83) hE dX9_packNow_80 (by decide) rfl (fun h4 => ?_) (fun h4 => ?_)
    · try simp only [decide_eq_true_eq, decide_eq_false_iff_not] at h4
      refine x_iconst (pc' := 88) hE dX9_packNow_87 rfl ?_
      refine x_iret hE dX9_packNow_88 ?_
      refine ⟨ri ?_, rfl⟩
      unfold pkN
      subst h1
      simp
      rw [show fsB (fv τ) (wv τ 1 p) (wv τ 7 (wv τ 2 p)) (wv τ 3 p) (wv τ 0 2) = false from h4]
    · try simp only [decide_eq_true_eq, decide_eq_false_iff_not] at h4
      refine x_iconst (pc' := 84) hE dX9_packNow_83 rfl ?_
      refine x_goto (tgt := 88) hE dX9_packNow_84 (by decide) ?_
      refine x_iret hE dX9_packNow_88 ?_
      refine ⟨ri ?_, rfl⟩
      unfold pkN
      subst h1
      simp
      rw [show fsB (fv τ) (wv τ 1 p) (wv τ 7 (wv τ 2 p)) (wv τ 3 p) (wv τ 0 2) = true from h4]
  · refine x_tabIn (tgt := 89) (off := 88) hE dX9_packNow_1 ⟨by omega, by omega⟩ (by omega) (by omega) (by rw [h1]; rfl) (by decide) ?_
    refine x_aload_n (pc' := 90) hE dX9_packNow_89 rfl rfl ?_
    refine x_iload_n (pc' := 91) hE dX9_packNow_90 rfl rfl ?_
    refine x_aload_n (pc' := 92) hE dX9_packNow_91 rfl rfl ?_
    refine gM_3 (pc' := 95) hE hM tF_X9_146 dX9_packNow_92 rfl ?_
    refine x_cV1 (pc' := 98) hE hM (okM G) hl hR (c_X9_prey l G _ _ (by assumption) (by omega) (by assumption) _ _ (by omega) (by omega) (by omega) (by omega)) kX9_prey tM_X9_149 (rcvM hM) (by decide) dX9_packNow_95 rfl rfl (Nat.le_of_ble_eq_true rfl) (fun σ5 e5 => ?_)
    replace e5 := e5.symm
    subst e5
    refine x_iret hE dX9_packNow_98 ?_
    refine ⟨ri ?_, rfl⟩
    unfold pkN
    first | (subst h1; rfl) | (rw [if_neg (by omega), if_neg (by omega), if_neg (by omega), if_neg (by omega), if_neg (by omega), if_neg (by omega)])
  · refine x_tabOut (tgt := 99) hE dX9_packNow_1 ⟨by omega, by omega⟩ (by omega) (by decide) ?_
    refine x_aload_n (pc' := 100) hE dX9_packNow_99 rfl rfl ?_
    refine x_iload_n (pc' := 101) hE dX9_packNow_100 rfl rfl ?_
    refine x_cV1 (pc' := 104) hE hM (okM G) hl hR (c_X9_eatenMany l G _ _ (by assumption) _ (by omega) (by omega)) kX9_eatenMany tM_X9_152 (rcvM hM) (by decide) dX9_packNow_101 rfl rfl (Nat.le_of_ble_eq_true rfl) (fun σ6 e6 => ?_)
    replace e6 := e6.symm
    subst e6
    refine x_iret hE dX9_packNow_104 ?_
    refine ⟨ri ?_, rfl⟩
    unfold pkN
    first | (subst h1; rfl) | (rw [if_neg (by omega), if_neg (by omega), if_neg (by omega), if_neg (by omega), if_neg (by omega), if_neg (by omega)])
set_option maxHeartbeats 4000000 in
set_option maxRecDepth 10000 in
theorem c_X9_flockNow (l : Launch) (G : GM) (τ : St) (D : Int) (hW : WOk D (wv τ)) (f wh : Int) (f0 : 0 ≤ f) (f1 : f < 5) (w0 : 0 ≤ wh) (w1 : wh ≤ 3) : Ct l (YM G) yX9_flockNow (.code yX9_flockNow cX9_flockNow 3 (some .int)) 0 [.ref (aM G 0), .int (iN f), .int (iN wh)] τ (fun v τ' => v = some (.int (iN (flN (wv τ) f wh))) ∧ τ' = τ) := by
  refine Ct_of (own := RX9) [some (.ref (aM G 0)), some (.int (iN f)), some (.int (iN wh))] rfl rfl (Nat.le_of_ble_eq_true rfl) rfl ?_
  intro E hE hM hl hR
  obtain ⟨hnp, hnf, hday, hpp, hff, hcc⟩ := WT_of hW
  have q1 := hff f f0 f1
  have e6 : wv τ 6 f = τ 8 0 0 f := rfl
  refine x_iload_n (pc' := 1) hE dX9_flockNow_0 rfl rfl ?_
  rcases (show wh = 0 ∨ wh = 1 ∨ wh = 2 ∨ (wh < 0 ∨ 2 < wh) by omega) with h1 | h1 | h1 | h1
  · refine x_tabIn (tgt := 28) (off := 27) hE dX9_flockNow_1 ⟨by omega, by omega⟩ (by omega) (by omega) (by rw [h1]; rfl) (by decide) ?_
    refine x_aload_n (pc' := 29) hE dX9_flockNow_28 rfl rfl ?_
    refine gM_10 (pc' := 32) hE hM tF_X9_25 dX9_flockNow_29 rfl ?_
    refine x_iload_n (pc' := 33) hE dX9_flockNow_32 rfl rfl ?_
    refine aM_6 (pc' := 34) hE hM (by omega) (by omega) dX9_flockNow_33 rfl ?_
    refine x_iret hE dX9_flockNow_34 ?_
    refine ⟨ri ?_, rfl⟩
    unfold flN
    first | (subst h1; rfl) | (subst h1; simp; omega) | (rw [if_neg (by omega), if_neg (by omega), if_neg (by omega)]; rfl)
  · refine x_tabIn (tgt := 35) (off := 34) hE dX9_flockNow_1 ⟨by omega, by omega⟩ (by omega) (by omega) (by rw [h1]; rfl) (by decide) ?_
    refine x_aload_n (pc' := 36) hE dX9_flockNow_35 rfl rfl ?_
    refine gM_11 (pc' := 39) hE hM tF_X9_28 dX9_flockNow_36 rfl ?_
    refine x_iload_n (pc' := 40) hE dX9_flockNow_39 rfl rfl ?_
    refine aM_7 (pc' := 41) hE hM (by omega) (by omega) dX9_flockNow_40 rfl ?_
    refine x_iret hE dX9_flockNow_41 ?_
    refine ⟨ri ?_, rfl⟩
    unfold flN
    first | (subst h1; rfl) | (subst h1; simp; omega) | (rw [if_neg (by omega), if_neg (by omega), if_neg (by omega)]; rfl)
  · refine x_tabIn (tgt := 42) (off := 41) hE dX9_flockNow_1 ⟨by omega, by omega⟩ (by omega) (by omega) (by rw [h1]; rfl) (by decide) ?_
    refine x_aload_n (pc' := 43) hE dX9_flockNow_42 rfl rfl ?_
    refine gM_12 (pc' := 46) hE hM tF_X9_31 dX9_flockNow_43 rfl ?_
    refine x_iload_n (pc' := 47) hE dX9_flockNow_46 rfl rfl ?_
    refine aM_8 (pc' := 48) hE hM (by omega) (by omega) dX9_flockNow_47 rfl ?_
    refine x_iconst (pc' := 49) hE dX9_flockNow_48 rfl ?_
    refine x_icmpne (tgt := 56) (pc' := 52) hE dX9_flockNow_49 (by decide) rfl ⟨by omega, by omega⟩ ⟨by omega, by omega⟩ (fun h2 => ?_) (fun h2 => ?_)
    · refine x_iconst (pc' := 57) hE dX9_flockNow_56 rfl ?_
      refine x_iret hE dX9_flockNow_57 ?_
      refine ⟨ri ?_, rfl⟩
      unfold flN
      first | (subst h1; rfl) | (subst h1; simp; omega) | (rw [if_neg (by omega), if_neg (by omega), if_neg (by omega)]; rfl)
    · refine x_iconst (pc' := 53) hE dX9_flockNow_52 rfl ?_
      refine x_goto (tgt := 57) hE dX9_flockNow_53 (by decide) ?_
      refine x_iret hE dX9_flockNow_57 ?_
      refine ⟨ri ?_, rfl⟩
      unfold flN
      first | (subst h1; rfl) | (subst h1; simp; omega) | (rw [if_neg (by omega), if_neg (by omega), if_neg (by omega)]; rfl)
  · refine x_tabOut (tgt := 58) hE dX9_flockNow_1 ⟨by omega, by omega⟩ (by omega) (by decide) ?_
    refine x_aload_n (pc' := 59) hE dX9_flockNow_58 rfl rfl ?_
    refine gM_12 (pc' := 62) hE hM tF_X9_31 dX9_flockNow_59 rfl ?_
    refine x_iload_n (pc' := 63) hE dX9_flockNow_62 rfl rfl ?_
    refine aM_8 (pc' := 64) hE hM (by omega) (by omega) dX9_flockNow_63 rfl ?_
    refine x_iret hE dX9_flockNow_64 ?_
    refine ⟨ri ?_, rfl⟩
    unfold flN
    first | (subst h1; rfl) | (subst h1; simp; omega) | (rw [if_neg (by omega), if_neg (by omega), if_neg (by omega)]; rfl)
set_option maxHeartbeats 4000000 in
set_option maxRecDepth 10000 in
theorem c_X9_forgedMany (l : Launch) (G : GM) (τ : St) (D : Int) (hW : WOk D (wv τ)) : Ct l (YM G) yX9_forgedMany (.code yX9_forgedMany cX9_forgedMany 3 (some .int)) 0 [.ref (aM G 0)] τ (fun v τ' => v = some (.int (iN (fgN (wv τ)))) ∧ τ' = τ) := by
  refine Ct_of (own := RX9) [some (.ref (aM G 0)), none, none] rfl rfl (Nat.le_of_ble_eq_true rfl) rfl ?_
  intro E hE hM hl hR
  obtain ⟨hnp, hnf, hday, hpp, hff, hcc⟩ := WT_of hW
  
  have loop : ∀ (n : Nat) (k : Int), 0 ≤ k → k ≤ 8 → 8 - k = n → VV E 3 (AS (YM G)) (Qm (YM G) (fun v τ' => v = some (.int (iN (fgN (wv τ)))) ∧ τ' = τ) E) (Rh (YM G) (τ)) 4 [some (.ref (aM G 0)), some (.int (iN (cntU (fun c => decide (τ 2 0 0 c ≠ 0)) (k).toNat))), some (.int (iN (k)))] [] := by
    intro n
    induction n using Nat.strongRecOn with
    | _ n ih =>
    intro k g0 g1 g2
    refine x_iload_n (pc' := 5) hE dX9_forgedMany_4 rfl rfl ?_
    refine x_bipush (pc' := 7) hE dX9_forgedMany_5 rfl (by decide +kernel) ?_
    refine x_icmpge (tgt := 33) (pc' := 10) hE dX9_forgedMany_7 (by decide) rfl ⟨by omega, by omega⟩ ⟨by omega, by omega⟩ (fun h1 => ?_) (fun h1 => ?_)
    · refine x_iload_n (pc' := 34) hE dX9_forgedMany_33 rfl rfl ?_
      refine x_iret hE dX9_forgedMany_34 ?_
      have e : k = 8 := by omega
      subst e
      exact ⟨rfl, rfl⟩
    · have q1 := hcc k (by omega) (by omega)
      refine x_iload_n (pc' := 11) hE dX9_forgedMany_10 rfl rfl ?_
      refine x_aload_n (pc' := 12) hE dX9_forgedMany_11 rfl rfl ?_
      refine gM_4 (pc' := 15) hE hM tF_X9_13 dX9_forgedMany_12 rfl ?_
      refine x_iload_n (pc' := 16) hE dX9_forgedMany_15 rfl rfl ?_
      refine aM_2 (pc' := 17) hE hM (by omega) (by omega) dX9_forgedMany_16 rfl ?_
      refine x_ifne (tgt := 24) (pc' := 20) hE dX9_forgedMany_17 (by decide) rfl ⟨by omega, by omega⟩ (fun h2 => ?_) (fun h2 => ?_)
      · refine x_iconst (pc' := 25) hE dX9_forgedMany_24 rfl ?_
        refine x_iadd (pc' := 26) hE dX9_forgedMany_25 rfl ?_
        refine x_istore_n (pc' := 27) hE dX9_forgedMany_26 rfl (by decide) rfl rfl ?_
        dsimp only [List.set]
        refine x_iinc (pc' := 30) hE dX9_forgedMany_27 rfl rfl (by decide) rfl rfl ?_
        dsimp only [List.set]
        refine x_goto (tgt := 4) hE dX9_forgedMany_30 (by decide) ?_
        refine x_lve (lv' := [some (.ref (aM G 0)), some (.int (iN (cntU (fun c => decide (τ 2 0 0 c ≠ 0)) (k + 1).toNat))), some (.int (iN (k + 1)))]) ?_ (ih (n - 1) (by omega) (k + 1) (by omega) (by omega) (by omega))
        rw [cntU_s _ g0]
        simp [h1, h2]
      · refine x_iconst (pc' := 21) hE dX9_forgedMany_20 rfl ?_
        refine x_goto (tgt := 25) hE dX9_forgedMany_21 (by decide) ?_
        refine x_iadd (pc' := 26) hE dX9_forgedMany_25 rfl ?_
        refine x_istore_n (pc' := 27) hE dX9_forgedMany_26 rfl (by decide) rfl rfl ?_
        dsimp only [List.set]
        refine x_iinc (pc' := 30) hE dX9_forgedMany_27 rfl rfl (by decide) rfl rfl ?_
        dsimp only [List.set]
        refine x_goto (tgt := 4) hE dX9_forgedMany_30 (by decide) ?_
        refine x_lve (lv' := [some (.ref (aM G 0)), some (.int (iN (cntU (fun c => decide (τ 2 0 0 c ≠ 0)) (k + 1).toNat))), some (.int (iN (k + 1)))]) ?_ (ih (n - 1) (by omega) (k + 1) (by omega) (by omega) (by omega))
        rw [cntU_s _ g0]
        simp [h1, h2]
  refine x_iconst (pc' := 1) hE dX9_forgedMany_0 rfl ?_
  refine x_istore_n (pc' := 2) hE dX9_forgedMany_1 rfl (by decide) rfl rfl ?_
  dsimp only [List.set]
  refine x_iconst (pc' := 3) hE dX9_forgedMany_2 rfl ?_
  refine x_istore_n (pc' := 4) hE dX9_forgedMany_3 rfl (by decide) rfl rfl ?_
  dsimp only [List.set]
  exact loop 8 0 (by omega) (by omega) (by omega)
set_option maxHeartbeats 4000000 in
set_option maxRecDepth 10000 in
theorem c_X9_howMany (l : Launch) (G : GM) (τ : St) (D : Int) (hW : WOk D (wv τ)) (wh : Int) (hwh : inR wh) : Ct l (YM G) yX9_howMany (.code yX9_howMany cX9_howMany 2 (some .int)) 1 [.ref (aM G 0), .int (iN wh)] τ (fun v τ' => v = some (.int (iN (cnN (wv τ) (τ 0 0 0 1) (τ 0 0 0 18) (τ 0 0 0 0) (τ 0 0 0 17) (τ 0 0 0 15) wh))) ∧ τ' = τ) := by
  refine Ct_of (own := RX9) [some (.ref (aM G 0)), some (.int (iN wh))] rfl rfl (Nat.le_of_ble_eq_true rfl) rfl ?_
  intro E hE hM hl hR
  obtain ⟨wa, wb⟩ := hwh
  refine x_iload_n (pc' := 1) hE dX9_howMany_0 rfl rfl ?_
  rcases (show wh = 0 ∨ wh = 1 ∨ wh = 2 ∨ wh = 3 ∨ wh = 4 ∨ wh = 5 ∨ wh = 6 ∨ wh = 7 ∨ wh = 8 ∨ wh = 9 ∨ (wh < 0 ∨ 9 < wh) by omega) with h1 | h1 | h1 | h1 | h1 | h1 | h1 | h1 | h1 | h1 | h1
  · refine x_tabIn (tgt := 56) (off := 55) hE dX9_howMany_1 ⟨by omega, by omega⟩ (by omega) (by omega) (by rw [h1]; rfl) (by decide) ?_
    refine x_aload_n (pc' := 57) hE dX9_howMany_56 rfl rfl ?_
    refine gM_1 (pc' := 60) hE hM tF_X9_102 dX9_howMany_57 rfl ?_
    refine x_iret hE dX9_howMany_60 ?_
    refine ⟨ri ?_, rfl⟩
    unfold cnN
    first | (subst h1; rfl) | (rw [if_neg (by omega), if_neg (by omega), if_neg (by omega), if_neg (by omega), if_neg (by omega), if_neg (by omega), if_neg (by omega), if_neg (by omega), if_neg (by omega), if_neg (by omega)])
  · refine x_tabIn (tgt := 61) (off := 60) hE dX9_howMany_1 ⟨by omega, by omega⟩ (by omega) (by omega) (by rw [h1]; rfl) (by decide) ?_
    refine x_aload_n (pc' := 62) hE dX9_howMany_61 rfl rfl ?_
    refine gM_5 (pc' := 65) hE hM tF_X9_122 dX9_howMany_62 rfl ?_
    refine x_iret hE dX9_howMany_65 ?_
    refine ⟨ri ?_, rfl⟩
    unfold cnN
    first | (subst h1; rfl) | (rw [if_neg (by omega), if_neg (by omega), if_neg (by omega), if_neg (by omega), if_neg (by omega), if_neg (by omega), if_neg (by omega), if_neg (by omega), if_neg (by omega), if_neg (by omega)])
  · refine x_tabIn (tgt := 66) (off := 65) hE dX9_howMany_1 ⟨by omega, by omega⟩ (by omega) (by omega) (by rw [h1]; rfl) (by decide) ?_
    refine x_aload_n (pc' := 67) hE dX9_howMany_66 rfl rfl ?_
    refine gM_9 (pc' := 70) hE hM tF_X9_133 dX9_howMany_67 rfl ?_
    refine x_iret hE dX9_howMany_70 ?_
    refine ⟨ri ?_, rfl⟩
    unfold cnN
    first | (subst h1; rfl) | (rw [if_neg (by omega), if_neg (by omega), if_neg (by omega), if_neg (by omega), if_neg (by omega), if_neg (by omega), if_neg (by omega), if_neg (by omega), if_neg (by omega), if_neg (by omega)])
  · refine x_tabIn (tgt := 71) (off := 70) hE dX9_howMany_1 ⟨by omega, by omega⟩ (by omega) (by omega) (by rw [h1]; rfl) (by decide) ?_
    refine x_aload_n (pc' := 72) hE dX9_howMany_71 rfl rfl ?_
    refine x_cV1 (pc' := 75) hE hM (okM G) hl hR (c_X9_eatenAll l G _ _ (by assumption)) kX9_eatenAll tM_X9_180 (rcvM hM) (by decide) dX9_howMany_72 rfl rfl (Nat.le_of_ble_eq_true rfl) (fun σ2 e2 => ?_)
    replace e2 := e2.symm
    subst e2
    refine x_iret hE dX9_howMany_75 ?_
    refine ⟨ri ?_, rfl⟩
    unfold cnN
    first | (subst h1; rfl) | (rw [if_neg (by omega), if_neg (by omega), if_neg (by omega), if_neg (by omega), if_neg (by omega), if_neg (by omega), if_neg (by omega), if_neg (by omega), if_neg (by omega), if_neg (by omega)])
  · refine x_tabIn (tgt := 76) (off := 75) hE dX9_howMany_1 ⟨by omega, by omega⟩ (by omega) (by omega) (by rw [h1]; rfl) (by decide) ?_
    refine x_aload_n (pc' := 77) hE dX9_howMany_76 rfl rfl ?_
    refine gM_3 (pc' := 80) hE hM tF_X9_146 dX9_howMany_77 rfl ?_
    refine x_iret hE dX9_howMany_80 ?_
    refine ⟨ri ?_, rfl⟩
    unfold cnN
    first | (subst h1; rfl) | (rw [if_neg (by omega), if_neg (by omega), if_neg (by omega), if_neg (by omega), if_neg (by omega), if_neg (by omega), if_neg (by omega), if_neg (by omega), if_neg (by omega), if_neg (by omega)])
  · refine x_tabIn (tgt := 81) (off := 80) hE dX9_howMany_1 ⟨by omega, by omega⟩ (by omega) (by omega) (by rw [h1]; rfl) (by decide) ?_
    refine x_aload_n (pc' := 82) hE dX9_howMany_81 rfl rfl ?_
    refine x_cV1 (pc' := 85) hE hM (okM G) hl hR (c_X9_forgedMany l G _ _ (by assumption)) kX9_forgedMany tM_X9_271 (rcvM hM) (by decide) dX9_howMany_82 rfl rfl (Nat.le_of_ble_eq_true rfl) (fun σ3 e3 => ?_)
    replace e3 := e3.symm
    subst e3
    refine x_iret hE dX9_howMany_85 ?_
    refine ⟨ri ?_, rfl⟩
    unfold cnN
    first | (subst h1; rfl) | (rw [if_neg (by omega), if_neg (by omega), if_neg (by omega), if_neg (by omega), if_neg (by omega), if_neg (by omega), if_neg (by omega), if_neg (by omega), if_neg (by omega), if_neg (by omega)])
  · refine x_tabIn (tgt := 86) (off := 85) hE dX9_howMany_1 ⟨by omega, by omega⟩ (by omega) (by omega) (by rw [h1]; rfl) (by decide) ?_
    refine x_aload_n (pc' := 87) hE dX9_howMany_86 rfl rfl ?_
    refine gM_15 (pc' := 90) hE hM tF_X9_220 dX9_howMany_87 rfl ?_
    refine x_iret hE dX9_howMany_90 ?_
    refine ⟨ri ?_, rfl⟩
    unfold cnN
    first | (subst h1; rfl) | (rw [if_neg (by omega), if_neg (by omega), if_neg (by omega), if_neg (by omega), if_neg (by omega), if_neg (by omega), if_neg (by omega), if_neg (by omega), if_neg (by omega), if_neg (by omega)])
  · refine x_tabIn (tgt := 91) (off := 90) hE dX9_howMany_1 ⟨by omega, by omega⟩ (by omega) (by omega) (by rw [h1]; rfl) (by decide) ?_
    refine x_aload_n (pc' := 92) hE dX9_howMany_91 rfl rfl ?_
    refine gM_18 (pc' := 95) hE hM tF_X9_79 dX9_howMany_92 rfl ?_
    refine x_iret hE dX9_howMany_95 ?_
    refine ⟨ri ?_, rfl⟩
    unfold cnN
    first | (subst h1; rfl) | (rw [if_neg (by omega), if_neg (by omega), if_neg (by omega), if_neg (by omega), if_neg (by omega), if_neg (by omega), if_neg (by omega), if_neg (by omega), if_neg (by omega), if_neg (by omega)])
  · refine x_tabIn (tgt := 96) (off := 95) hE dX9_howMany_1 ⟨by omega, by omega⟩ (by omega) (by omega) (by rw [h1]; rfl) (by decide) ?_
    refine x_aload_n (pc' := 97) hE dX9_howMany_96 rfl rfl ?_
    refine gM_0 (pc' := 100) hE hM tF_X9_105 dX9_howMany_97 rfl ?_
    refine x_iret hE dX9_howMany_100 ?_
    refine ⟨ri ?_, rfl⟩
    unfold cnN
    first | (subst h1; rfl) | (rw [if_neg (by omega), if_neg (by omega), if_neg (by omega), if_neg (by omega), if_neg (by omega), if_neg (by omega), if_neg (by omega), if_neg (by omega), if_neg (by omega), if_neg (by omega)])
  · refine x_tabIn (tgt := 101) (off := 100) hE dX9_howMany_1 ⟨by omega, by omega⟩ (by omega) (by omega) (by rw [h1]; rfl) (by decide) ?_
    refine x_aload_n (pc' := 102) hE dX9_howMany_101 rfl rfl ?_
    refine gM_17 (pc' := 105) hE hM tF_X9_207 dX9_howMany_102 rfl ?_
    refine x_iret hE dX9_howMany_105 ?_
    refine ⟨ri ?_, rfl⟩
    unfold cnN
    first | (subst h1; rfl) | (rw [if_neg (by omega), if_neg (by omega), if_neg (by omega), if_neg (by omega), if_neg (by omega), if_neg (by omega), if_neg (by omega), if_neg (by omega), if_neg (by omega), if_neg (by omega)])
  · refine x_tabOut (tgt := 106) hE dX9_howMany_1 ⟨by omega, by omega⟩ (by omega) (by decide) ?_
    refine x_bipush (pc' := 108) hE dX9_howMany_106 rfl (by decide +kernel) ?_
    refine x_iret hE dX9_howMany_108 ?_
    refine ⟨ri ?_, rfl⟩
    unfold cnN
    first | (subst h1; rfl) | (rw [if_neg (by omega), if_neg (by omega), if_neg (by omega), if_neg (by omega), if_neg (by omega), if_neg (by omega), if_neg (by omega), if_neg (by omega), if_neg (by omega), if_neg (by omega)])
set_option maxHeartbeats 4000000 in
set_option maxRecDepth 10000 in
theorem c_X9_mix (l : Launch) (G : GM) (τ : St) (z : Int) : Ct l (YM G) yX9_mix (.code yX9_mix cX9_mix 3 none) 0 [.ref (aM G 0), .long (lL z)] τ (fun v τ' => v = none ∧ τ' = up τ 0 0 0 42 (31 * τ 0 0 0 42 + z)) := by
  refine Ct_of (own := RX9) [some (.ref (aM G 0)), some (.long (lL z)), none] rfl rfl (Nat.le_of_ble_eq_true rfl) rfl ?_
  intro E hE hM hl hR
  refine x_aload_n (pc' := 1) hE dX9_mix_0 rfl rfl ?_
  refine x_ldc2 (pc' := 4) hE dX9_mix_1 rfl tV_X9_277 ?_
  refine x_aload_n (pc' := 5) hE dX9_mix_4 rfl rfl ?_
  refine gM_42 (pc' := 8) hE hM tF_X9_279 dX9_mix_5 rfl ?_
  refine x_lmul (pc' := 9) hE dX9_mix_8 rfl ?_
  refine x_lload_n (pc' := 10) hE dX9_mix_9 rfl rfl ?_
  refine x_ladd (pc' := 11) hE dX9_mix_10 rfl ?_
  refine x_st (st' := [.long (lL (31 * τ 0 0 0 42 + z)), .ref (aM G 0)]) (by rw [show (31 : Int64) = lL 31 by decide +kernel, lL_mul, lL_add]) ?_
  refine pM_42 (pc' := 14) hE hM tF_X9_279 dX9_mix_11 rfl ?_
  refine x_vret hE dX9_mix_14 ?_
  exact ⟨rfl, rfl⟩
set_option maxHeartbeats 4000000 in
set_option maxRecDepth 10000 in
theorem c_X9_mixFlock (l : Launch) (G : GM) (τ : St) (D : Int) (hW : WOk D (wv τ)) (hD : D ≤ 900000) (hF : FOk (τ 0 0 0 1) (τ 1 0 0)) (f : Int) (f0 : 0 ≤ f) (f1 : f < 5) : Ct l (YM G) yX9_mixFlock (.code yX9_mixFlock cX9_mixFlock 3 none) 7 [.ref (aM G 0), .int (iN f)] τ (fun v τ' => v = none ∧ (Sd τ τ' ∧ τ' 0 0 0 42 = flM (fv τ) (wv τ) f (τ 0 0 0 42))) := by
  refine Ct_of (own := RX9) [some (.ref (aM G 0)), some (.int (iN f)), none] rfl rfl (Nat.le_of_ble_eq_true rfl) rfl ?_
  intro E hE hM hl hR
  obtain ⟨hnp, hnf, hday, hpp, hff, hcc⟩ := WT_of hW
  
  have loop : ∀ (n : Nat) (k : Int) (S : St), Sd τ S → S 0 0 0 42 = mixU (flN (wv τ) f) k.toNat (τ 0 0 0 42) → 0 ≤ k → k ≤ 4 → 4 - k = n → VV E 3 (AS (YM G)) (Qm (YM G) (fun v τ' => v = none ∧ (Sd τ τ' ∧ τ' 0 0 0 42 = flM (fv τ) (wv τ) f (τ 0 0 0 42))) E) (Rh (YM G) (S)) 2 [some (.ref (aM G 0)), some (.int (iN f)), some (.int (iN (k)))] [] := by
    intro n
    induction n using Nat.strongRecOn with
    | _ n ih =>
    intro k S hd hv g0 g1 g2
    have hwS : wv S = wv τ := hd.wv
    have hfS : fv S = fv τ := hd.fv
    have hFS := hd.fok hF
    have hWS : WOk D (wv S) := by rw [hwS]; exact hW
    have hlb := flN_bd hWS f0 f1 k
    have hkb := fallK_bd (fv S) f 60 (wv S) 1 (by omega)
    obtain ⟨-, -, -, -, hffS, -⟩ := WT_of hWS
    have q1 := hffS f f0 f1
    have e6 : wv S 6 f = S 8 0 0 f := rfl
    refine x_iload_n (pc' := 3) hE dX9_mixFlock_2 rfl rfl ?_
    refine x_iconst (pc' := 4) hE dX9_mixFlock_3 rfl ?_
    refine x_icmpge (tgt := 24) (pc' := 7) hE dX9_mixFlock_4 (by decide) rfl ⟨by omega, by omega⟩ ⟨by omega, by omega⟩ (fun h1 => ?_) (fun h1 => ?_)
    · refine x_aload_n (pc' := 25) hE dX9_mixFlock_24 rfl rfl ?_
      refine gM_12 (pc' := 28) hE hM tF_X9_31 dX9_mixFlock_25 rfl ?_
      refine x_iload_n (pc' := 29) hE dX9_mixFlock_28 rfl rfl ?_
      refine aM_8 (pc' := 30) hE hM (by omega) (by omega) dX9_mixFlock_29 rfl ?_
      refine x_iconst (pc' := 31) hE dX9_mixFlock_30 rfl ?_
      refine x_icmpne (tgt := 44) (pc' := 34) hE dX9_mixFlock_31 (by decide) rfl ⟨by omega, by omega⟩ ⟨by omega, by omega⟩ (fun h2 => ?_) (fun h2 => ?_)
      · refine x_vret hE dX9_mixFlock_44 ?_
        have e : k = 4 := by omega
        subst e
        refine ⟨rfl, hd, ?_⟩
        rw [hv, flM, if_neg (by rw [← hwS, e6]; exact h2)]
        rfl
      · refine x_aload_n (pc' := 35) hE dX9_mixFlock_34 rfl rfl ?_
        refine x_aload_n (pc' := 36) hE dX9_mixFlock_35 rfl rfl ?_
        refine x_iload_n (pc' := 37) hE dX9_mixFlock_36 rfl rfl ?_
        refine x_cV1 (pc' := 40) hE hM (okM G) hl hR (c_X9_fallsNow l G _ _ (by assumption) (by omega) (by assumption) _ (by omega) (by omega)) kX9_fallsNow tM_X9_195 (rcvM hM) (by decide) dX9_mixFlock_37 rfl rfl (Nat.le_of_ble_eq_true rfl) (fun σ3 e3 => ?_)
        have hsc := e3
        refine x_i2l (pc' := 41) hE dX9_mixFlock_40 rfl ⟨by omega, by omega⟩ ?_
        refine x_cV0 (pc' := 44) hE hM (okM G) hl hR (c_X9_mix l G _ _) kX9_mix tM_X9_284 (rcvM hM) (by decide) dX9_mixFlock_41 rfl rfl (Nat.le_of_ble_eq_true rfl) (fun σ4 e4 => ?_)
        have hm : Sd τ σ4 := by rw [e4]; exact (hd.trans hsc.sd).trans (Sd_up42 _ _)
        have hv2 : σ4 0 0 0 42 = 31 * mixU (flN (wv τ) f) k.toNat (τ 0 0 0 42) + fallK (fv τ) (wv τ) f 60 1 := by rw [e4, up_s, hsc.at 0 42 (by omega), hv, hfS, hwS]
        refine x_vret hE dX9_mixFlock_44 ?_
        have e : k = 4 := by omega
        subst e
        refine ⟨rfl, hm, ?_⟩
        rw [hv2, flM, if_pos (by rw [← hwS, e6]; exact h2)]
        rfl
    · refine x_aload_n (pc' := 8) hE dX9_mixFlock_7 rfl rfl ?_
      refine x_aload_n (pc' := 9) hE dX9_mixFlock_8 rfl rfl ?_
      refine x_iload_n (pc' := 10) hE dX9_mixFlock_9 rfl rfl ?_
      refine x_iload_n (pc' := 11) hE dX9_mixFlock_10 rfl rfl ?_
      refine x_cV1 (pc' := 14) hE hM (okM G) hl hR (c_X9_flockNow l G _ _ (by assumption) _ _ (by omega) (by omega) (by omega) (by omega)) kX9_flockNow tM_X9_167 (rcvM hM) (by decide) dX9_mixFlock_11 rfl rfl (Nat.le_of_ble_eq_true rfl) (fun σ5 e5 => ?_)
      replace e5 := e5.symm
      subst e5
      refine x_i2l (pc' := 15) hE dX9_mixFlock_14 rfl ⟨by omega, by omega⟩ ?_
      refine x_cV0 (pc' := 18) hE hM (okM G) hl hR (c_X9_mix l G _ _) kX9_mix tM_X9_284 (rcvM hM) (by decide) dX9_mixFlock_15 rfl rfl (Nat.le_of_ble_eq_true rfl) (fun σ6 e6 => ?_)
      have hm : Sd τ σ6 := by rw [e6]; exact hd.trans (Sd_up42 _ _)
      have hv2 : σ6 0 0 0 42 = 31 * mixU (flN (wv τ) f) k.toNat (τ 0 0 0 42) + flN (wv τ) f k := by rw [e6, up_s, hv, hwS]
      refine x_iinc (pc' := 21) hE dX9_mixFlock_18 rfl rfl (by decide) rfl rfl ?_
      dsimp only [List.set]
      refine x_goto (tgt := 2) hE dX9_mixFlock_21 (by decide) ?_
      refine ih (n - 1) (by omega) (k + 1) _ hm ?_ (by omega) (by omega) (by omega)
      rw [hv2, mixU_s _ g0]
  refine x_iconst (pc' := 1) hE dX9_mixFlock_0 rfl ?_
  refine x_istore_n (pc' := 2) hE dX9_mixFlock_1 rfl (by decide) rfl rfl ?_
  dsimp only [List.set]
  exact loop 4 0 τ (Sd.refl τ) rfl (by omega) (by omega) (by omega)
