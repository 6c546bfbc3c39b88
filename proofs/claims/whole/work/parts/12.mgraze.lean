section XB
variable {E : EV} {cc : ByteArray} {nL : Nat} {own : String} {ret : Option FieldType} {A : Nat → Prop} {Q : State → Prop} {J : Heap → Prop} {pc pc' tgt : Nat} {lv : List (Option Value)} {st : List Value}
theorem x_icmpneB1 {b : Bool} {off : Int} (hE : OK E cc nL own ret) (hd : decode cc pc = .ok (.if_icmp .ne off, 3)) (ht : (pc : Int) + off = (tgt : Int)) (hp : pc' = pc + 3) (kt : b = false → VV E nL A Q J tgt lv st) (kf : b = true → VV E nL A Q J pc' lv st) : VV E nL A Q J pc lv (.int (iN 1) :: .int (bI b) :: st) := by
  rw [← bI_t]
  exact x_icmpneB hE hd ht hp (fun h => kt (by cases b; rfl; exact absurd rfl h)) kf
theorem x_icmpneB0 {b : Bool} {off : Int} (hE : OK E cc nL own ret) (hd : decode cc pc = .ok (.if_icmp .ne off, 3)) (ht : (pc : Int) + off = (tgt : Int)) (hp : pc' = pc + 3) (kt : b = true → VV E nL A Q J tgt lv st) (kf : b = false → VV E nL A Q J pc' lv st) : VV E nL A Q J pc lv (.int (iN 0) :: .int (bI b) :: st) := by
  rw [← bI_f]
  exact x_icmpneB hE hd ht hp (fun h => kt (by cases b; exact absurd rfl h; rfl)) kf
end XB
theorem pow3_bd (m : Nat) (h : m ≤ 6) : 1 ≤ (3 : Int) ^ m ∧ (3 : Int) ^ m ≤ 729 := by
  have key : ∀ m : Nat, m < 7 → 1 ≤ (3 : Int) ^ m ∧ (3 : Int) ^ m ≤ 729 := by decide +kernel
  exact key m (by omega)
theorem pow3_s {k : Int} (h : 0 ≤ k) : (3 : Int) ^ (k + 1).toNat = 3 ^ k.toNat * 3 := by
  rw [show (k + 1).toNat = k.toNat + 1 by omega, Int.pow_succ]
/-- a row of cells spelled by a number in threes: does the flock come through -/
def grB (F : Int → Bool) (f : Int) : Nat → Int → Wd → Bool
  | 0, _, _ => true
  | n + 1, code, W => decide (0 ≤ W 5 f + (code / 3 ^ n - 1) ∧ W 5 f + (code / 3 ^ n - 1) ≤ 7) && (decide (goD F (wu W 5 f (W 5 f + (code / 3 ^ n - 1))) 6 f = -1) && grB F f n (code % 3 ^ n) (goD F (wu W 5 f (W 5 f + (code / 3 ^ n - 1)))))
def gFst (p : Int → Bool) (g : Int → Int) : Nat → Int
  | 0 => -1
  | n + 1 => if p n = true ∧ gFst p g n = -1 then g n else gFst p g n
theorem gFst_s (p : Int → Bool) (g : Int → Int) {k : Int} (h : 0 ≤ k) : gFst p g (k + 1).toNat = if p k = true ∧ gFst p g k.toNat = -1 then g k else gFst p g k.toNat := by
  rw [show (k + 1).toNat = k.toNat + 1 by omega, gFst, Int.toNat_of_nonneg h]
theorem gFst_bd {p : Int → Bool} {g : Int → Int} {N : Nat} (h : ∀ k : Int, 0 ≤ k → k < N → -1 ≤ g k ∧ g k ≤ 8) : ∀ n : Nat, n ≤ N → -1 ≤ gFst p g n ∧ gFst p g n ≤ 8
  | 0, _ => by simp [gFst]
  | n + 1, hn => by
    have ih := gFst_bd (p := p) h n (by omega)
    have h1 := h n (by omega) (by omega)
    rw [gFst]
    split <;> omega
theorem nailA_s (g : Int → Int) {k : Int} (h : 0 ≤ k) : nailA g (k + 1).toNat = if g k > (nailA g k.toNat).2 then (k, g k) else nailA g k.toNat := by
  rw [show (k + 1).toNat = k.toNat + 1 by omega, nailA, Int.toNat_of_nonneg h]
theorem runF_bd (p : Int → Bool) : ∀ (n : Nat) (k : Int), k ≤ runF p n k ∧ runF p n k ≤ k + n
  | 0, k => by simp [runF]
  | n + 1, k => by
    have ih := runF_bd p n (k + 1)
    rw [runF]
    split <;> omega
theorem nailG_bd (F : Int → Bool) (k g d v : Int) : 0 ≤ nailG F k g d v ∧ nailG F k g d v ≤ 30 := by
  have := runF_bd (fun m => fsB F k v g (d + m)) 30 0
  unfold nailG
  omega
theorem nailA_bd {g : Int → Int} (h : ∀ k, 0 ≤ g k ∧ g k ≤ 30) : ∀ n : Nat, -1 ≤ (nailA g n).1 ∧ (nailA g n).1 < n ∧ 0 ≤ (nailA g n).2 ∧ (nailA g n).2 ≤ 30
  | 0 => by simp [nailA]
  | n + 1 => by
    have ih := nailA_bd h n
    have h1 := h n
    rw [nailA]
    split
    · dsimp only; omega
    · omega
def fitN (p : Int → Bool) (n : Nat) : Int := (fitR p n).toInt
theorem fitN_i (p : Int → Bool) (n : Nat) : iN (fitN p n) = fitR p n := iN_asI _
theorem fitR_s (p : Int → Bool) {k : Int} (h : 0 ≤ k) : fitR p (k + 1).toNat = if p k then fitR p k.toNat ||| (iN 1 <<< (iN k &&& 31)) else fitR p k.toNat := by
  rw [show (k + 1).toNat = k.toNat + 1 by omega, fitR, Int.toNat_of_nonneg h]
theorem or_0 (x : Int32) : x ||| iN 0 = x := by
  rw [← iN_0]
  exact Int32.or_zero
def snB (F : Int → Bool) (fg k g fr : Int) (S : Int → Int) (n : Nat) : Bool := allU (fun j => fsB F k fg g (fr + j) == decide (S j = 0)) n
def fitW (F : Int → Bool) (fg g fr : Int) (S : Int → Int) (n : Nat) (wh : Int) : Int := fitN (fun k => if wh = 0 then snB F fg 3 k fr S n else snB F fg k g fr S n) (if wh = 0 then 10 else 5)
def pkN (F : Int → Bool) (W : Wd) (p wh : Int) : Int := if wh = 0 then W 1 p else if wh = 1 then W 2 p else if wh = 2 then W 3 p else if wh = 3 then rdB (W 1 p) (W 7 (W 2 p)) (W 3 p) (W 0 2) else if wh = 4 then (if fsB F (W 1 p) (W 7 (W 2 p)) (W 3 p) (W 0 2) then 1 else 0) else if wh = 5 then prey F W p (W 0 2) else eatP W p
def flN (W : Wd) (f wh : Int) : Int := if wh = 0 then W 4 f else if wh = 1 then W 5 f else if wh = 2 then (if W 6 f = -1 then 0 else 1) else W 6 f
def fgN (W : Wd) : Int := cntU (fun c => decide (W 7 c ≠ 0)) 8
def cnN (W : Wd) (fn pn rd ak sn wh : Int) : Int := if wh = 0 then fn else if wh = 1 then W 0 0 else if wh = 2 then W 0 1 else if wh = 3 then eatN W else if wh = 4 then W 0 2 else if wh = 5 then fgN W else if wh = 6 then sn else if wh = 7 then pn else if wh = 8 then rd else if wh = 9 then ak else -102
theorem fb_andL (a b : Nat) : lN a &&& lN b = lN (a &&& b) := by
  apply Int64.toBitVec_inj.1
  show BitVec.ofNat 64 a &&& BitVec.ofNat 64 b = BitVec.ofNat 64 (a &&& b)
  apply BitVec.eq_of_getLsbD_eq
  intro i hi
  simp [hi]
theorem fb_maskL (n k : Nat) : lN n &&& lN (2 ^ k - 1) = lN (n % 2 ^ k) := by rw [fb_andL, Nat.and_two_pow_sub_one_eq_mod]
theorem lL_nat (n : Nat) : lL (n : Int) = lN n := Int64.ofInt_eq_ofNat
theorem sd_raw {s : Int} (h0 : 0 ≤ s) (h1 : s < 2147483648) : ((1103515245 : Int64) * lL s + 12345) &&& 2147483647 = lL (sdN s) := by
  obtain ⟨n, rfl⟩ := Int.eq_ofNat_of_zero_le h0
  have e1 : (1103515245 : Int64) = lL 1103515245 := by decide +kernel
  have e2 : (12345 : Int64) = lL 12345 := by decide +kernel
  have e3 : (2147483647 : Int64) = lN (2 ^ 31 - 1) := by decide +kernel
  rw [e1, e2, e3, lL_mul, lL_add]
  have e4 : (1103515245 * (n : Int) + 12345) = ((1103515245 * n + 12345 : Nat) : Int) := by omega
  rw [e4, lL_nat, fb_maskL, sdN, e4, ← lL_nat]
  congr 1
theorem sdN_bd (s : Int) : 0 ≤ sdN s ∧ sdN s < 2147483648 := by
  unfold sdN
  omega
set_option maxHeartbeats 4000000 in
set_option maxRecDepth 10000 in
theorem c_X9_power (l : Launch) (G : GM) (τ : St) (t : Int) (h0 : 0 ≤ t) (h1 : t ≤ 6) : Ct l (YM G) yX9_power (.code yX9_power cX9_power 3 (some .int)) 0 [.int (iN t)] τ (fun v τ' => v = some (.int (iN (3 ^ t.toNat))) ∧ τ' = τ) := by
  refine Ct_of (own := RX9) [some (.int (iN t)), none, none] rfl rfl (Nat.le_of_ble_eq_true rfl) rfl ?_
  intro E hE hM hl hR
  have loop : ∀ (n : Nat) (k : Int), 0 ≤ k → k ≤ t → t - k = n → VV E 3 (AS (YM G)) (Qm (YM G) (fun v τ' => v = some (.int (iN (3 ^ t.toNat))) ∧ τ' = τ) E) (Rh (YM G) (τ)) 4 [some (.int (iN t)), some (.int (iN (3 ^ (k).toNat))), some (.int (iN (k)))] [] := by
    intro n
    induction n using Nat.strongRecOn with
    | _ n ih =>
    intro k g0 g1 g2
    refine x_iload_n (pc' := 5) hE dX9_power_4 rfl rfl ?_
    refine x_iload_n (pc' := 6) hE dX9_power_5 rfl rfl ?_
    refine x_icmpge (tgt := 19) (pc' := 9) hE dX9_power_6 (by decide) rfl ⟨by omega, by omega⟩ ⟨by omega, by omega⟩ (fun h1 => ?_) (fun h1 => ?_)
    · refine x_iload_n (pc' := 20) hE dX9_power_19 rfl rfl ?_
      refine x_iret hE dX9_power_20 ?_
      have e : k = t := by omega
      subst e
      exact ⟨rfl, rfl⟩
    · refine x_iload_n (pc' := 10) hE dX9_power_9 rfl rfl ?_
      refine x_iconst (pc' := 11) hE dX9_power_10 rfl ?_
      refine x_imul (pc' := 12) hE dX9_power_11 rfl ?_
      refine x_istore_n (pc' := 13) hE dX9_power_12 rfl (by decide) rfl rfl ?_
      dsimp only [List.set]
      refine x_iinc (pc' := 16) hE dX9_power_13 rfl rfl (by decide) rfl rfl ?_
      dsimp only [List.set]
      refine x_goto (tgt := 4) hE dX9_power_16 (by decide) ?_
      refine x_lve (lv' := [some (.int (iN t)), some (.int (iN (3 ^ (k + 1).toNat))), some (.int (iN (k + 1)))]) (by rw [pow3_s g0]) (ih (n - 1) (by omega) (k + 1) (by omega) (by omega) (by omega))
  refine x_iconst (pc' := 1) hE dX9_power_0 rfl ?_
  refine x_istore_n (pc' := 2) hE dX9_power_1 rfl (by decide) rfl rfl ?_
  dsimp only [List.set]
  refine x_iconst (pc' := 3) hE dX9_power_2 rfl ?_
  refine x_istore_n (pc' := 4) hE dX9_power_3 rfl (by decide) rfl rfl ?_
  dsimp only [List.set]
  exact loop t.toNat 0 (by omega) (by omega) (by omega)
set_option maxHeartbeats 4000000 in
set_option maxRecDepth 10000 in
theorem c_X9_grazesBy (l : Launch) (G : GM) (τ : St) (D : Int) (hW : WOk D (wv τ)) (hD : D ≤ 900000) (hF : FOk (τ 0 0 0 1) (τ 1 0 0)) (f code days : Int) (f0 : 0 ≤ f) (f1 : f < 5) (y0 : 1 ≤ days) (y1 : days ≤ 6) (k0 : 0 ≤ code) (k1 : code < 3 ^ days.toNat) (hce : 0 ≤ τ 7 0 0 f ∧ τ 7 0 0 f ≤ 7) : Ct l (YM G) yX9_grazesBy (.code yX9_grazesBy cX9_grazesBy 7 (some .boolean)) 5 [.ref (aM G 0), .int (iN f), .int (iN code), .int (iN days)] τ (fun v τ' => v = some (.int (bI (grB (fv τ) f days.toNat code (wv τ)))) ∧ (∀ τ0, Sv τ0 τ → Sv τ0 τ')) := by
  refine Ct_of (own := RX9) [some (.ref (aM G 0)), some (.int (iN f)), some (.int (iN code)), some (.int (iN days)), none, none, none] rfl rfl (Nat.le_of_ble_eq_true rfl) rfl ?_
  intro E hE hM hl hR
  have loop : ∀ (m : Nat) (left : Int) (S : St) (DS : Int), m ≤ 6 → 0 ≤ left → left < 3 ^ m → WOk DS (wv S) → DS + m ≤ 900010 → FOk (S 0 0 0 1) (S 1 0 0) → (0 ≤ S 7 0 0 f ∧ S 7 0 0 f ≤ 7) → (∀ τ0, Sv τ0 τ → Sv τ0 S) → grB (fv τ) f days.toNat code (wv τ) = grB (fv S) f m left (wv S) → VV E 7 (AS (YM G)) (Qm (YM G) (fun v τ' => v = some (.int (bI (grB (fv τ) f days.toNat code (wv τ)))) ∧ (∀ τ0, Sv τ0 τ → Sv τ0 τ')) E) (Rh (YM G) (S)) 11 [some (.ref (aM G 0)), some (.int (iN f)), some (.int (iN code)), some (.int (iN days)), some (.int (iN (left))), some (.int (iN 1)), some (.int (iN (((m : Nat) : Int) - 1)))] [] := by
    intro m
    induction m with
    | zero =>
      intro left S DS m6 l0 l1 hWS hDS hFS hcS hsv hg
      refine x_iload (pc' := 13) hE dX9_grazesBy_11 rfl rfl ?_
      refine x_iflt (tgt := 94) (pc' := 16) hE dX9_grazesBy_13 (by decide) rfl ⟨by omega, by omega⟩ (fun h1 => ?_) (fun h1 => ?_)
      · refine x_iload (pc' := 96) hE dX9_grazesBy_94 rfl rfl ?_
        refine x_zret hE dX9_grazesBy_96 (by rfl) ?_
        exact ⟨rb1 (by rw [hg]; rfl), hsv⟩
      · exfalso; omega
    | succ m ih =>
      intro left S DS m6 l0 l1 hWS hDS hFS hcS hsv hg
      refine x_lve (lv' := [some (.ref (aM G 0)), some (.int (iN f)), some (.int (iN code)), some (.int (iN days)), some (.int (iN (left))), some (.int (iN 1)), some (.int (iN (((m : Nat) : Int))))]) (by rw [show ((m + 1 : Nat) : Int) - 1 = (m : Int) by omega]) ?_
      have p3 := pow3_bd m (by omega)
      have l1' : left < 3 * 3 ^ m := by rw [Int.mul_comm, ← Int.pow_succ]; exact l1
      have d1 : 0 ≤ left / 3 ^ m := Int.ediv_nonneg l0 (by omega)
      have d2 : left / 3 ^ m < 3 := Int.ediv_lt_of_lt_mul (by omega) l1'
      have r0 : 0 ≤ left % 3 ^ m := Int.emod_nonneg _ (by omega)
      have r1 : left % 3 ^ m < 3 ^ m := Int.emod_lt_of_pos _ (by omega)
      have hw1 := wv_up7 S f (S 7 0 0 f + (left / 3 ^ m - 1))
      have hW1 : WOk DS (wv (up S 7 0 0 f (S 7 0 0 f + (left / 3 ^ m - 1)))) := by rw [hw1]; exact wu5_ok hWS (by omega) (by omega)
      have hf1 := fv_up S (k := 7) f (S 7 0 0 f + (left / 3 ^ m - 1)) (by decide) (by decide)
      have hF1 := fok_up (k := 7) f (S 7 0 0 f + (left / 3 ^ m - 1)) (by decide) (by decide) hFS
      have hv1 : ∀ τ0, Sv τ0 τ → Sv τ0 (up S 7 0 0 f (S 7 0 0 f + (left / 3 ^ m - 1))) := fun τ0 h => Sv_up (hsv τ0 h) (by omega)
      have hc1 : up S 7 0 0 f (S 7 0 0 f + (left / 3 ^ m - 1)) 7 0 0 f = S 7 0 0 f + (left / 3 ^ m - 1) := up_s _ _ _ _ _ _
      have hg1 : grB (fv τ) f days.toNat code (wv τ) = (decide (0 ≤ S 7 0 0 f + (left / 3 ^ m - 1) ∧ S 7 0 0 f + (left / 3 ^ m - 1) ≤ 7) && (decide (goT (up S 7 0 0 f (S 7 0 0 f + (left / 3 ^ m - 1))) 8 0 0 f = -1) && grB (fv (goT (up S 7 0 0 f (S 7 0 0 f + (left / 3 ^ m - 1))))) f m (left % 3 ^ m) (wv (goT (up S 7 0 0 f (S 7 0 0 f + (left / 3 ^ m - 1))))))) := by
        rw [hg, grB, fv_goT, hf1, wv_goT, hw1, hf1]
        have e1 : goT (up S 7 0 0 f (S 7 0 0 f + (left / 3 ^ m - 1))) 8 0 0 f = wv (goT (up S 7 0 0 f (S 7 0 0 f + (left / 3 ^ m - 1)))) 6 f := rfl
        rw [e1, wv_goT, hw1, hf1]
        rfl
      have hW2 := goT_ok hW1
      obtain ⟨-, -, -, -, hff2, -⟩ := WT_of hW2
      have q2 := hff2 f f0 f1
      have hF2 := goT_fok hF1
      have hv2 : ∀ τ0, Sv τ0 τ → Sv τ0 (goT (up S 7 0 0 f (S 7 0 0 f + (left / 3 ^ m - 1)))) := fun τ0 h => Sv_goT (hv1 τ0 h) hW1
      have hc2 : goT (up S 7 0 0 f (S 7 0 0 f + (left / 3 ^ m - 1))) 7 0 0 f = S 7 0 0 f + (left / 3 ^ m - 1) := by rw [goT_o _ (by decide) _ _ _ (by omega)]; exact hc1
      refine x_iload (pc' := 13) hE dX9_grazesBy_11 rfl rfl ?_
      refine x_iflt (tgt := 94) (pc' := 16) hE dX9_grazesBy_13 (by decide) rfl ⟨by omega, by omega⟩ (fun h2 => ?_) (fun h2 => ?_)
      · exfalso; omega
      · refine x_iload (pc' := 18) hE dX9_grazesBy_16 rfl rfl ?_
        refine x_ifeq (tgt := 94) (pc' := 21) hE dX9_grazesBy_18 (by decide) rfl ⟨by omega, by omega⟩ (fun h3 => ?_) (fun h3 => ?_)
        · exact absurd h3 (by decide)
        · refine x_aload_n (pc' := 22) hE dX9_grazesBy_21 rfl rfl ?_
          refine gM_11 (pc' := 25) hE hM tF_X9_28 dX9_grazesBy_22 rfl ?_
          refine x_iload_n (pc' := 26) hE dX9_grazesBy_25 rfl rfl ?_
          refine x_dup2 (pc' := 27) hE dX9_grazesBy_26 rfl rfl rfl ?_
          refine aM_7 (pc' := 28) hE hM (by omega) (by omega) dX9_grazesBy_27 rfl ?_
          refine x_iload (pc' := 30) hE dX9_grazesBy_28 rfl rfl ?_
          refine x_iload (pc' := 32) hE dX9_grazesBy_30 rfl rfl ?_
          refine x_cS1 (pc' := 35) hE hM (okM G) hl hR (c_X9_power l G _ _ (by omega) (by omega)) kX9_power tM_X9_201 (by decide) dX9_grazesBy_32 rfl rfl (Nat.le_of_ble_eq_true rfl) (fun σ4 e4 => ?_)
          replace e4 := e4.symm
          subst e4
          simp only [Int.toNat_natCast]
          refine x_idiv (pc' := 36) hE dX9_grazesBy_35 rfl (by omega) (by omega) (by omega) (by omega) ?_
          refine x_iconst (pc' := 37) hE dX9_grazesBy_36 rfl ?_
          refine x_isub (pc' := 38) hE dX9_grazesBy_37 rfl ?_
          refine x_iadd (pc' := 39) hE dX9_grazesBy_38 rfl ?_
          refine sM_7 (pc' := 40) hE hM (by omega) (by omega) dX9_grazesBy_39 rfl ?_
          generalize hS1 : up S 7 0 0 f (S 7 0 0 f + (left / 3 ^ m - 1)) = S1 at *
          refine x_iload (pc' := 42) hE dX9_grazesBy_40 rfl rfl ?_
          refine x_iload (pc' := 44) hE dX9_grazesBy_42 rfl rfl ?_
          refine x_cS1 (pc' := 47) hE hM (okM G) hl hR (c_X9_power l G _ _ (by omega) (by omega)) kX9_power tM_X9_201 (by decide) dX9_grazesBy_44 rfl rfl (Nat.le_of_ble_eq_true rfl) (fun σ5 e5 => ?_)
          replace e5 := e5.symm
          subst e5
          simp only [Int.toNat_natCast]
          refine x_irem (pc' := 48) hE dX9_grazesBy_47 rfl (by omega) (by omega) (by omega) (by omega) ?_
          refine x_istore (pc' := 50) hE dX9_grazesBy_48 rfl (by decide) rfl rfl ?_
          dsimp only [List.set]
          refine x_aload_n (pc' := 51) hE dX9_grazesBy_50 rfl rfl ?_
          refine gM_11 (pc' := 54) hE hM tF_X9_28 dX9_grazesBy_51 rfl ?_
          refine x_iload_n (pc' := 55) hE dX9_grazesBy_54 rfl rfl ?_
          refine aM_7 (pc' := 56) hE hM (by omega) (by omega) dX9_grazesBy_55 rfl ?_
          refine x_cS1 (pc' := 59) hE hM (okM G) hl hR (c_X9_isCell l G _ _ ⟨by omega, by omega⟩) kX9_isCell tM_X9_119 (by decide) dX9_grazesBy_56 rfl rfl (Nat.le_of_ble_eq_true rfl) (fun σ6 e6 => ?_)
          replace e6 := e6.symm
          subst e6
          rw [hc1]
          refine x_istore (pc' := 61) hE dX9_grazesBy_59 rfl (by decide) rfl rfl ?_
          dsimp only [List.set]
          refine x_iload (pc' := 63) hE dX9_grazesBy_61 rfl rfl ?_
          refine x_ifeqB (tgt := 88) (pc' := 66) hE dX9_grazesBy_63 (by decide) rfl (fun h7 => ?_) (fun h7 => ?_)
          · try simp only [decide_eq_true_eq, decide_eq_false_iff_not] at h7
            refine x_iinc (pc' := 91) hE dX9_grazesBy_88 rfl rfl (by decide) rfl rfl ?_
            dsimp only [List.set]
            refine x_goto (tgt := 11) hE dX9_grazesBy_91 (by decide) ?_
            refine x_iload (pc' := 13) hE dX9_grazesBy_11 rfl rfl ?_
            refine x_iflt (tgt := 94) (pc' := 16) hE dX9_grazesBy_13 (by decide) rfl ⟨by omega, by omega⟩ (fun h8 => ?_) (fun h8 => ?_)
            · refine x_iload (pc' := 96) hE dX9_grazesBy_94 rfl rfl ?_
              refine x_zret hE dX9_grazesBy_96 (nz_b _) ?_
              refine ⟨?_, hv1⟩
              have e9 : grB (fv τ) f days.toNat code (wv τ) = false := by rw [hg1]; simp; omega
              rw [e9, show decide (0 ≤ S 7 0 0 f + (left / 3 ^ m - 1) ∧ S 7 0 0 f + (left / 3 ^ m - 1) ≤ 7) = false by simp; omega]
            · refine x_iload (pc' := 18) hE dX9_grazesBy_16 rfl rfl ?_
              refine x_ifeqB (tgt := 94) (pc' := 21) hE dX9_grazesBy_18 (by decide) rfl (fun h9 => ?_) (fun h9 => ?_)
              · try simp only [decide_eq_true_eq, decide_eq_false_iff_not] at h9
                refine x_iload (pc' := 96) hE dX9_grazesBy_94 rfl rfl ?_
                refine x_zret hE dX9_grazesBy_96 (nz_b _) ?_
                refine ⟨?_, hv1⟩
                have e9 : grB (fv τ) f days.toNat code (wv τ) = false := by rw [hg1]; simp; omega
                rw [e9, show decide (0 ≤ S 7 0 0 f + (left / 3 ^ m - 1) ∧ S 7 0 0 f + (left / 3 ^ m - 1) ≤ 7) = false by simp; omega]
              · try simp only [decide_eq_true_eq, decide_eq_false_iff_not] at h9
                exfalso; omega
          · try simp only [decide_eq_true_eq, decide_eq_false_iff_not] at h7
            refine x_aload_n (pc' := 67) hE dX9_grazesBy_66 rfl rfl ?_
            refine x_cV1 (pc' := 70) hE hM (okM G) hl hR (c_X9_goDay l G _ _ (by assumption) (by omega) (by assumption)) kX9_goDay tM_X9_173 (rcvM hM) (by decide) dX9_grazesBy_67 rfl rfl (Nat.le_of_ble_eq_true rfl) (fun σ10 e10 => ?_)
            replace e10 := e10.symm
            subst e10
            refine x_pop (pc' := 71) hE dX9_grazesBy_70 rfl rfl ?_
            refine x_aload_n (pc' := 72) hE dX9_grazesBy_71 rfl rfl ?_
            refine gM_12 (pc' := 75) hE hM tF_X9_31 dX9_grazesBy_72 rfl ?_
            refine x_iload_n (pc' := 76) hE dX9_grazesBy_75 rfl rfl ?_
            refine aM_8 (pc' := 77) hE hM (by omega) (by omega) dX9_grazesBy_76 rfl ?_
            refine x_iconst (pc' := 78) hE dX9_grazesBy_77 rfl ?_
            refine x_icmpne (tgt := 85) (pc' := 81) hE dX9_grazesBy_78 (by decide) rfl ⟨by omega, by omega⟩ ⟨by omega, by omega⟩ (fun h11 => ?_) (fun h11 => ?_)
            · refine x_iconst (pc' := 86) hE dX9_grazesBy_85 rfl ?_
              refine x_istore (pc' := 88) hE dX9_grazesBy_86 rfl (by decide) rfl rfl ?_
              dsimp only [List.set]
              refine x_iinc (pc' := 91) hE dX9_grazesBy_88 rfl rfl (by decide) rfl rfl ?_
              dsimp only [List.set]
              refine x_goto (tgt := 11) hE dX9_grazesBy_91 (by decide) ?_
              refine x_iload (pc' := 13) hE dX9_grazesBy_11 rfl rfl ?_
              refine x_iflt (tgt := 94) (pc' := 16) hE dX9_grazesBy_13 (by decide) rfl ⟨by omega, by omega⟩ (fun h12 => ?_) (fun h12 => ?_)
              · refine x_iload (pc' := 96) hE dX9_grazesBy_94 rfl rfl ?_
                refine x_zret hE dX9_grazesBy_96 (by rfl) ?_
                refine ⟨rb0 ?_, hv2⟩
                rw [hg1]
                simp [h7, h11]
              · refine x_iload (pc' := 18) hE dX9_grazesBy_16 rfl rfl ?_
                refine x_ifeq (tgt := 94) (pc' := 21) hE dX9_grazesBy_18 (by decide) rfl ⟨by omega, by omega⟩ (fun h13 => ?_) (fun h13 => ?_)
                · refine x_iload (pc' := 96) hE dX9_grazesBy_94 rfl rfl ?_
                  refine x_zret hE dX9_grazesBy_96 (by rfl) ?_
                  refine ⟨rb0 ?_, hv2⟩
                  rw [hg1]
                  simp [h7, h11]
                · exact absurd h13 (by decide)
            · refine x_iconst (pc' := 82) hE dX9_grazesBy_81 rfl ?_
              refine x_goto (tgt := 86) hE dX9_grazesBy_82 (by decide) ?_
              refine x_istore (pc' := 88) hE dX9_grazesBy_86 rfl (by decide) rfl rfl ?_
              dsimp only [List.set]
              refine x_iinc (pc' := 91) hE dX9_grazesBy_88 rfl rfl (by decide) rfl rfl ?_
              dsimp only [List.set]
              refine x_goto (tgt := 11) hE dX9_grazesBy_91 (by decide) ?_
              refine x_lve (lv' := [some (.ref (aM G 0)), some (.int (iN f)), some (.int (iN code)), some (.int (iN days)), some (.int (iN (left % 3 ^ m))), some (.int (iN 1)), some (.int (iN (((m : Nat) : Int) - 1)))]) (by rw [show ((m : Nat) : Int) - 1 = (m : Int) + (-1) by omega]) (ih (left % 3 ^ m) (goT S1) (DS + 1) (by omega) r0 r1 hW2 (by omega) hF2 (by rw [hc2]; exact h7) hv2 ?_)
              rw [hg1]
              simp [h7, h11]
  refine x_iload_n (pc' := 1) hE dX9_grazesBy_0 rfl rfl ?_
  refine x_istore (pc' := 3) hE dX9_grazesBy_1 rfl (by decide) rfl rfl ?_
  dsimp only [List.set]
  refine x_iconst (pc' := 4) hE dX9_grazesBy_3 rfl ?_
  refine x_istore (pc' := 6) hE dX9_grazesBy_4 rfl (by decide) rfl rfl ?_
  dsimp only [List.set]
  refine x_iload_n (pc' := 7) hE dX9_grazesBy_6 rfl rfl ?_
  refine x_iconst (pc' := 8) hE dX9_grazesBy_7 rfl ?_
  refine x_isub (pc' := 9) hE dX9_grazesBy_8 rfl ?_
  refine x_istore (pc' := 11) hE dX9_grazesBy_9 rfl (by decide) rfl rfl ?_
  dsimp only [List.set]
  refine x_lve (lv' := [some (.ref (aM G 0)), some (.int (iN f)), some (.int (iN code)), some (.int (iN days)), some (.int (iN (code))), some (.int (iN 1)), some (.int (iN (((days.toNat : Nat) : Int) - 1)))]) (by rw [show ((days.toNat : Nat) : Int) = days by omega]) (loop days.toNat code τ D (by omega) k0 k1 hW (by omega) hF hce (fun _ h => h) rfl)
theorem x_fg7 {E : EV} {nL : Nat} {A : Nat → Prop} {Q : State → Prop} {J : Heap → Prop} {pc : Nat} {a0 a1 a2 a3 a4 a5 a6 a7 : Option Value} {st : List Value} (k : VV E nL A Q J pc [a0, a1, a2, a3, a4, a5, a6, none] st) : VV E nL A Q J pc [a0, a1, a2, a3, a4, a5, a6, a7] st := x_lvf (lv' := [a0, a1, a2, a3, a4, a5, a6, none]) ⟨Or.inr rfl, Or.inr rfl, Or.inr rfl, Or.inr rfl, Or.inr rfl, Or.inr rfl, Or.inr rfl, Or.inl rfl, trivial⟩ k
set_option maxHeartbeats 4000000 in
set_option maxRecDepth 10000 in
theorem c_X9_grazeNow (l : Launch) (G : GM) (τ : St) (D : Int) (hW : WOk D (wv τ)) (hD : D ≤ 900000) (hF : FOk (τ 0 0 0 1) (τ 1 0 0)) (f days wh : Int) (f0 : 0 ≤ f) (f1 : f < 5) (y0 : 1 ≤ days) (y1 : days ≤ 6) (w0 : 0 ≤ wh) (w1 : wh ≤ 1) (hce : 0 ≤ τ 7 0 0 f ∧ τ 7 0 0 f ≤ 7) : Ct l (YM G) yX9_grazeNow (.code yX9_grazeNow cX9_grazeNow 8 (some .int)) 6 [.ref (aM G 0), .int (iN f), .int (iN days), .int (iN wh)] τ (fun v τ' => v = some (.int (iN (if wh = 0 then gFst (fun c => grB (fv τ) f days.toNat c (wv τ)) (fun c => τ 7 0 0 f + c / 3 ^ (days - 1).toNat - 1) (3 ^ days.toNat : Int).toNat else cntU (fun c => grB (fv τ) f days.toNat c (wv τ)) (3 ^ days.toNat : Int).toNat))) ∧ Sc τ τ') := by
  refine Ct_of (own := RX9) [some (.ref (aM G 0)), some (.int (iN f)), some (.int (iN days)), some (.int (iN wh)), none, none, none, none] rfl rfl (Nat.le_of_ble_eq_true rfl) rfl ?_
  intro E hE hM hl hR
  obtain ⟨hnp, hnf, hday, hpp, hff, hcc⟩ := WT_of hW
  have p3 := pow3_bd days.toNat (by omega)
  have p4 := pow3_bd (days - 1).toNat (by omega)
  have hgb : ∀ k : Int, 0 ≤ k → k < ((3 ^ days.toNat : Int).toNat : Int) → -1 ≤ (fun c => τ 7 0 0 f + c / 3 ^ (days - 1).toNat - 1) k ∧ (fun c => τ 7 0 0 f + c / 3 ^ (days - 1).toNat - 1) k ≤ 8 := by
    intro k k0 k1
    have k2 : k < 3 * 3 ^ (days - 1).toNat := by
      rw [Int.mul_comm, ← Int.pow_succ, show (days - 1).toNat.succ = days.toNat by omega]
      omega
    have d1 : 0 ≤ k / 3 ^ (days - 1).toNat := Int.ediv_nonneg k0 (by omega)
    have d2 : k / 3 ^ (days - 1).toNat < 3 := Int.ediv_lt_of_lt_mul (by omega) k2
    show -1 ≤ τ 7 0 0 f + k / 3 ^ (days - 1).toNat - 1 ∧ τ 7 0 0 f + k / 3 ^ (days - 1).toNat - 1 ≤ 8
    omega
  have loop : ∀ (n : Nat) (k : Int) (S : St), Sv τ S → Sc τ S → 0 ≤ k → k ≤ 3 ^ days.toNat → 3 ^ days.toNat - k = n → VV E 8 (AS (YM G)) (Qm (YM G) (fun v τ' => v = some (.int (iN (if wh = 0 then gFst (fun c => grB (fv τ) f days.toNat c (wv τ)) (fun c => τ 7 0 0 f + c / 3 ^ (days - 1).toNat - 1) (3 ^ days.toNat : Int).toNat else cntU (fun c => grB (fv τ) f days.toNat c (wv τ)) (3 ^ days.toNat : Int).toNat))) ∧ Sc τ τ') E) (Rh (YM G) (S)) 13 [some (.ref (aM G 0)), some (.int (iN f)), some (.int (iN days)), some (.int (iN wh)), some (.int (iN (cntU (fun c => grB (fv τ) f days.toNat c (wv τ)) (k).toNat))), some (.int (iN (gFst (fun c => grB (fv τ) f days.toNat c (wv τ)) (fun c => τ 7 0 0 f + c / 3 ^ (days - 1).toNat - 1) (k).toNat))), some (.int (iN (k))), none] [] := by
    intro n
    induction n using Nat.strongRecOn with
    | _ n ih =>
    intro k S hs hc g0 g1 g2
    have hwS : wv S = wv τ := hc.wv
    have hfS : fv S = fv τ := hc.fv
    have hFS := hc.fok hF
    have hWS : WOk D (wv S) := by rw [hwS]; exact hW
    have hcS : 0 ≤ S 7 0 0 f ∧ S 7 0 0 f ≤ 7 := by rw [hc.at 7 f (by omega)]; exact hce
    have hcb := cntU_bd (fun c => grB (fv τ) f days.toNat c (wv τ)) k.toNat
    have hfb := gFst_bd (p := (fun c => grB (fv τ) f days.toNat c (wv τ))) (N := (3 ^ days.toNat : Int).toNat) hgb k.toNat (by omega)
    refine x_iload (pc' := 15) hE dX9_grazeNow_13 rfl rfl ?_
    refine x_iload_n (pc' := 16) hE dX9_grazeNow_15 rfl rfl ?_
    refine x_cS1 (pc' := 19) hE hM (okM G) hl hR (c_X9_power l G _ _ (by omega) (by omega)) kX9_power tM_X9_201 (by decide) dX9_grazeNow_16 rfl rfl (Nat.le_of_ble_eq_true rfl) (fun σ1 e1 => ?_)
    replace e1 := e1.symm
    subst e1
    refine x_icmpge (tgt := 93) (pc' := 22) hE dX9_grazeNow_19 (by decide) rfl ⟨by omega, by omega⟩ ⟨by omega, by omega⟩ (fun h2 => ?_) (fun h2 => ?_)
    · refine x_iload_n (pc' := 94) hE dX9_grazeNow_93 rfl rfl ?_
      refine x_ifne (tgt := 102) (pc' := 97) hE dX9_grazeNow_94 (by decide) rfl ⟨by omega, by omega⟩ (fun h3 => ?_) (fun h3 => ?_)
      · refine x_iload (pc' := 104) hE dX9_grazeNow_102 rfl rfl ?_
        refine x_iret hE dX9_grazeNow_104 ?_
        have e : k = 3 ^ days.toNat := by omega
        subst e
        refine ⟨ri ?_, hc⟩
        simp [h3]
      · refine x_iload (pc' := 99) hE dX9_grazeNow_97 rfl rfl ?_
        refine x_goto (tgt := 104) hE dX9_grazeNow_99 (by decide) ?_
        refine x_iret hE dX9_grazeNow_104 ?_
        have e : k = 3 ^ days.toNat := by omega
        subst e
        refine ⟨ri ?_, hc⟩
        simp [h3]
    · have hgk := hgb k g0 (by omega)
      have d1 : 0 ≤ k / 3 ^ (days - 1).toNat := Int.ediv_nonneg g0 (by omega)
      refine x_aload_n (pc' := 23) hE dX9_grazeNow_22 rfl rfl ?_
      refine x_iload_n (pc' := 24) hE dX9_grazeNow_23 rfl rfl ?_
      refine x_iload (pc' := 26) hE dX9_grazeNow_24 rfl rfl ?_
      refine x_iload_n (pc' := 27) hE dX9_grazeNow_26 rfl rfl ?_
      refine x_cV1 (pc' := 30) hE hM (okM G) hl hR (c_X9_grazesBy l G _ _ (by assumption) (by omega) (by assumption) _ _ _ (by omega) (by omega) (by omega) (by omega) (by omega) (by omega) hcS) kX9_grazesBy tM_X9_204 (rcvM hM) (by decide) dX9_grazeNow_27 rfl rfl (Nat.le_of_ble_eq_true rfl) (fun σ4 e4 => ?_)
      have hgr := e4 τ hs
      refine x_istore (pc' := 32) hE dX9_grazeNow_30 rfl (by decide) rfl rfl ?_
      dsimp only [List.set]
      refine x_aload_n (pc' := 33) hE dX9_grazeNow_32 rfl rfl ?_
      refine x_cV0 (pc' := 36) hE hM (okM G) hl hR (c_X9_back l G _) kX9_back tM_X9_186 (rcvM hM) (by decide) dX9_grazeNow_33 rfl rfl (Nat.le_of_ble_eq_true rfl) (fun σ5 e5 => ?_)
      have hb := e5.1 τ hgr
      have hc7 := hb.2.at 7 f (by omega)
      rw [hfS, hwS]
      refine x_iload (pc' := 38) hE dX9_grazeNow_36 rfl rfl ?_
      refine x_ifeqB (tgt := 68) (pc' := 41) hE dX9_grazeNow_38 (by decide) rfl (fun h6 => ?_) (fun h6 => ?_)
      · try simp only [decide_eq_true_eq, decide_eq_false_iff_not] at h6
        refine x_iload (pc' := 70) hE dX9_grazeNow_68 rfl rfl ?_
        refine x_istore (pc' := 72) hE dX9_grazeNow_70 rfl (by decide) rfl rfl ?_
        dsimp only [List.set]
        refine x_iload (pc' := 74) hE dX9_grazeNow_72 rfl rfl ?_
        refine x_iload (pc' := 76) hE dX9_grazeNow_74 rfl rfl ?_
        refine x_ifeqB (tgt := 83) (pc' := 79) hE dX9_grazeNow_76 (by decide) rfl (fun h7 => ?_) (fun h7 => ?_)
        · try simp only [decide_eq_true_eq, decide_eq_false_iff_not] at h7
          refine x_iconst (pc' := 84) hE dX9_grazeNow_83 rfl ?_
          refine x_iadd (pc' := 85) hE dX9_grazeNow_84 rfl ?_
          refine x_istore (pc' := 87) hE dX9_grazeNow_85 rfl (by decide) rfl rfl ?_
          dsimp only [List.set]
          refine x_fg7 ?_
          refine x_iinc (pc' := 90) hE dX9_grazeNow_87 rfl rfl (by decide) rfl rfl ?_
          dsimp only [List.set]
          refine x_goto (tgt := 13) hE dX9_grazeNow_90 (by decide) ?_
          refine x_lve (lv' := [some (.ref (aM G 0)), some (.int (iN f)), some (.int (iN days)), some (.int (iN wh)), some (.int (iN (cntU (fun c => grB (fv τ) f days.toNat c (wv τ)) (k + 1).toNat))), some (.int (iN (gFst (fun c => grB (fv τ) f days.toNat c (wv τ)) (fun c => τ 7 0 0 f + c / 3 ^ (days - 1).toNat - 1) (k + 1).toNat))), some (.int (iN (k + 1))), none]) ?_ (ih (n - 1) (by omega) (k + 1) _ hb.1 hb.2 (by omega) (by omega) (by omega))
          rw [cntU_s _ g0, gFst_s _ _ g0]
          dsimp only at hfb hgk ⊢
          generalize gFst (fun c => grB (fv τ) f days.toNat c (wv τ)) (fun c => τ 7 0 0 f + c / 3 ^ (days - 1).toNat - 1) k.toNat = gf at *
          generalize cntU (fun c => grB (fv τ) f days.toNat c (wv τ)) k.toNat = cn at *
          generalize grB (fv τ) f days.toNat k (wv τ) = bb at *
          generalize τ 7 0 0 f + k / 3 ^ (days - 1).toNat - 1 = gk at *
          clear ih hgr hb hs hc hwS hfS hFS hWS hgb
          cases bb <;> simp_all
        · try simp only [decide_eq_true_eq, decide_eq_false_iff_not] at h7
          refine x_iconst (pc' := 80) hE dX9_grazeNow_79 rfl ?_
          refine x_goto (tgt := 84) hE dX9_grazeNow_80 (by decide) ?_
          refine x_iadd (pc' := 85) hE dX9_grazeNow_84 rfl ?_
          refine x_istore (pc' := 87) hE dX9_grazeNow_85 rfl (by decide) rfl rfl ?_
          dsimp only [List.set]
          refine x_fg7 ?_
          refine x_iinc (pc' := 90) hE dX9_grazeNow_87 rfl rfl (by decide) rfl rfl ?_
          dsimp only [List.set]
          refine x_goto (tgt := 13) hE dX9_grazeNow_90 (by decide) ?_
          refine x_lve (lv' := [some (.ref (aM G 0)), some (.int (iN f)), some (.int (iN days)), some (.int (iN wh)), some (.int (iN (cntU (fun c => grB (fv τ) f days.toNat c (wv τ)) (k + 1).toNat))), some (.int (iN (gFst (fun c => grB (fv τ) f days.toNat c (wv τ)) (fun c => τ 7 0 0 f + c / 3 ^ (days - 1).toNat - 1) (k + 1).toNat))), some (.int (iN (k + 1))), none]) ?_ (ih (n - 1) (by omega) (k + 1) _ hb.1 hb.2 (by omega) (by omega) (by omega))
          rw [cntU_s _ g0, gFst_s _ _ g0]
          dsimp only at hfb hgk ⊢
          generalize gFst (fun c => grB (fv τ) f days.toNat c (wv τ)) (fun c => τ 7 0 0 f + c / 3 ^ (days - 1).toNat - 1) k.toNat = gf at *
          generalize cntU (fun c => grB (fv τ) f days.toNat c (wv τ)) k.toNat = cn at *
          generalize grB (fv τ) f days.toNat k (wv τ) = bb at *
          generalize τ 7 0 0 f + k / 3 ^ (days - 1).toNat - 1 = gk at *
          clear ih hgr hb hs hc hwS hfS hFS hWS hgb
          cases bb <;> simp_all
      · try simp only [decide_eq_true_eq, decide_eq_false_iff_not] at h6
        refine x_iload (pc' := 43) hE dX9_grazeNow_41 rfl rfl ?_
        refine x_iconst (pc' := 44) hE dX9_grazeNow_43 rfl ?_
        refine x_icmpne (tgt := 68) (pc' := 47) hE dX9_grazeNow_44 (by decide) rfl ⟨by omega, by omega⟩ ⟨by omega, by omega⟩ (fun h8 => ?_) (fun h8 => ?_)
        · refine x_iload (pc' := 70) hE dX9_grazeNow_68 rfl rfl ?_
          refine x_istore (pc' := 72) hE dX9_grazeNow_70 rfl (by decide) rfl rfl ?_
          dsimp only [List.set]
          refine x_iload (pc' := 74) hE dX9_grazeNow_72 rfl rfl ?_
          refine x_iload (pc' := 76) hE dX9_grazeNow_74 rfl rfl ?_
          refine x_ifeqB (tgt := 83) (pc' := 79) hE dX9_grazeNow_76 (by decide) rfl (fun h9 => ?_) (fun h9 => ?_)
          · try simp only [decide_eq_true_eq, decide_eq_false_iff_not] at h9
            refine x_iconst (pc' := 84) hE dX9_grazeNow_83 rfl ?_
            refine x_iadd (pc' := 85) hE dX9_grazeNow_84 rfl ?_
            refine x_istore (pc' := 87) hE dX9_grazeNow_85 rfl (by decide) rfl rfl ?_
            dsimp only [List.set]
            refine x_fg7 ?_
            refine x_iinc (pc' := 90) hE dX9_grazeNow_87 rfl rfl (by decide) rfl rfl ?_
            dsimp only [List.set]
            refine x_goto (tgt := 13) hE dX9_grazeNow_90 (by decide) ?_
            refine x_lve (lv' := [some (.ref (aM G 0)), some (.int (iN f)), some (.int (iN days)), some (.int (iN wh)), some (.int (iN (cntU (fun c => grB (fv τ) f days.toNat c (wv τ)) (k + 1).toNat))), some (.int (iN (gFst (fun c => grB (fv τ) f days.toNat c (wv τ)) (fun c => τ 7 0 0 f + c / 3 ^ (days - 1).toNat - 1) (k + 1).toNat))), some (.int (iN (k + 1))), none]) ?_ (ih (n - 1) (by omega) (k + 1) _ hb.1 hb.2 (by omega) (by omega) (by omega))
            rw [cntU_s _ g0, gFst_s _ _ g0]
            dsimp only at hfb hgk ⊢
            generalize gFst (fun c => grB (fv τ) f days.toNat c (wv τ)) (fun c => τ 7 0 0 f + c / 3 ^ (days - 1).toNat - 1) k.toNat = gf at *
            generalize cntU (fun c => grB (fv τ) f days.toNat c (wv τ)) k.toNat = cn at *
            generalize grB (fv τ) f days.toNat k (wv τ) = bb at *
            generalize τ 7 0 0 f + k / 3 ^ (days - 1).toNat - 1 = gk at *
            clear ih hgr hb hs hc hwS hfS hFS hWS hgb
            cases bb <;> simp_all
          · try simp only [decide_eq_true_eq, decide_eq_false_iff_not] at h9
            refine x_iconst (pc' := 80) hE dX9_grazeNow_79 rfl ?_
            refine x_goto (tgt := 84) hE dX9_grazeNow_80 (by decide) ?_
            refine x_iadd (pc' := 85) hE dX9_grazeNow_84 rfl ?_
            refine x_istore (pc' := 87) hE dX9_grazeNow_85 rfl (by decide) rfl rfl ?_
            dsimp only [List.set]
            refine x_fg7 ?_
            refine x_iinc (pc' := 90) hE dX9_grazeNow_87 rfl rfl (by decide) rfl rfl ?_
            dsimp only [List.set]
            refine x_goto (tgt := 13) hE dX9_grazeNow_90 (by decide) ?_
            refine x_lve (lv' := [some (.ref (aM G 0)), some (.int (iN f)), some (.int (iN days)), some (.int (iN wh)), some (.int (iN (cntU (fun c => grB (fv τ) f days.toNat c (wv τ)) (k + 1).toNat))), some (.int (iN (gFst (fun c => grB (fv τ) f days.toNat c (wv τ)) (fun c => τ 7 0 0 f + c / 3 ^ (days - 1).toNat - 1) (k + 1).toNat))), some (.int (iN (k + 1))), none]) ?_ (ih (n - 1) (by omega) (k + 1) _ hb.1 hb.2 (by omega) (by omega) (by omega))
            rw [cntU_s _ g0, gFst_s _ _ g0]
            dsimp only at hfb hgk ⊢
            generalize gFst (fun c => grB (fv τ) f days.toNat c (wv τ)) (fun c => τ 7 0 0 f + c / 3 ^ (days - 1).toNat - 1) k.toNat = gf at *
            generalize cntU (fun c => grB (fv τ) f days.toNat c (wv τ)) k.toNat = cn at *
            generalize grB (fv τ) f days.toNat k (wv τ) = bb at *
            generalize τ 7 0 0 f + k / 3 ^ (days - 1).toNat - 1 = gk at *
            clear ih hgr hb hs hc hwS hfS hFS hWS hgb
            cases bb <;> simp_all
        · refine x_aload_n (pc' := 48) hE dX9_grazeNow_47 rfl rfl ?_
          refine gM_11 (pc' := 51) hE hM tF_X9_28 dX9_grazeNow_48 rfl ?_
          refine x_iload_n (pc' := 52) hE dX9_grazeNow_51 rfl rfl ?_
          refine aM_7 (pc' := 53) hE hM (by omega) (by omega) dX9_grazeNow_52 rfl ?_
          rw [hc7]
          refine x_iload (pc' := 55) hE dX9_grazeNow_53 rfl rfl ?_
          refine x_iload_n (pc' := 56) hE dX9_grazeNow_55 rfl rfl ?_
          refine x_iconst (pc' := 57) hE dX9_grazeNow_56 rfl ?_
          refine x_isub (pc' := 58) hE dX9_grazeNow_57 rfl ?_
          refine x_cS1 (pc' := 61) hE hM (okM G) hl hR (c_X9_power l G _ _ (by omega) (by omega)) kX9_power tM_X9_201 (by decide) dX9_grazeNow_58 rfl rfl (Nat.le_of_ble_eq_true rfl) (fun σ10 e10 => ?_)
          replace e10 := e10.symm
          subst e10
          refine x_idiv (pc' := 62) hE dX9_grazeNow_61 rfl (by omega) (by omega) (by omega) (by omega) ?_
          refine x_iadd (pc' := 63) hE dX9_grazeNow_62 rfl ?_
          refine x_iconst (pc' := 64) hE dX9_grazeNow_63 rfl ?_
          refine x_isub (pc' := 65) hE dX9_grazeNow_64 rfl ?_
          refine x_goto (tgt := 70) hE dX9_grazeNow_65 (by decide) ?_
          refine x_istore (pc' := 72) hE dX9_grazeNow_70 rfl (by decide) rfl rfl ?_
          dsimp only [List.set]
          refine x_iload (pc' := 74) hE dX9_grazeNow_72 rfl rfl ?_
          refine x_iload (pc' := 76) hE dX9_grazeNow_74 rfl rfl ?_
          refine x_ifeqB (tgt := 83) (pc' := 79) hE dX9_grazeNow_76 (by decide) rfl (fun h11 => ?_) (fun h11 => ?_)
          · try simp only [decide_eq_true_eq, decide_eq_false_iff_not] at h11
            refine x_iconst (pc' := 84) hE dX9_grazeNow_83 rfl ?_
            refine x_iadd (pc' := 85) hE dX9_grazeNow_84 rfl ?_
            refine x_istore (pc' := 87) hE dX9_grazeNow_85 rfl (by decide) rfl rfl ?_
            dsimp only [List.set]
            refine x_fg7 ?_
            refine x_iinc (pc' := 90) hE dX9_grazeNow_87 rfl rfl (by decide) rfl rfl ?_
            dsimp only [List.set]
            refine x_goto (tgt := 13) hE dX9_grazeNow_90 (by decide) ?_
            refine x_lve (lv' := [some (.ref (aM G 0)), some (.int (iN f)), some (.int (iN days)), some (.int (iN wh)), some (.int (iN (cntU (fun c => grB (fv τ) f days.toNat c (wv τ)) (k + 1).toNat))), some (.int (iN (gFst (fun c => grB (fv τ) f days.toNat c (wv τ)) (fun c => τ 7 0 0 f + c / 3 ^ (days - 1).toNat - 1) (k + 1).toNat))), some (.int (iN (k + 1))), none]) ?_ (ih (n - 1) (by omega) (k + 1) _ hb.1 hb.2 (by omega) (by omega) (by omega))
            rw [cntU_s _ g0, gFst_s _ _ g0]
            dsimp only at hfb hgk ⊢
            generalize gFst (fun c => grB (fv τ) f days.toNat c (wv τ)) (fun c => τ 7 0 0 f + c / 3 ^ (days - 1).toNat - 1) k.toNat = gf at *
            generalize cntU (fun c => grB (fv τ) f days.toNat c (wv τ)) k.toNat = cn at *
            generalize grB (fv τ) f days.toNat k (wv τ) = bb at *
            generalize τ 7 0 0 f + k / 3 ^ (days - 1).toNat - 1 = gk at *
            clear ih hgr hb hs hc hwS hfS hFS hWS hgb
            cases bb <;> simp_all
          · try simp only [decide_eq_true_eq, decide_eq_false_iff_not] at h11
            refine x_iconst (pc' := 80) hE dX9_grazeNow_79 rfl ?_
            refine x_goto (tgt := 84) hE dX9_grazeNow_80 (by decide) ?_
            refine x_iadd (pc' := 85) hE dX9_grazeNow_84 rfl ?_
            refine x_istore (pc' := 87) hE dX9_grazeNow_85 rfl (by decide) rfl rfl ?_
            dsimp only [List.set]
            refine x_fg7 ?_
            refine x_iinc (pc' := 90) hE dX9_grazeNow_87 rfl rfl (by decide) rfl rfl ?_
            dsimp only [List.set]
            refine x_goto (tgt := 13) hE dX9_grazeNow_90 (by decide) ?_
            refine x_lve (lv' := [some (.ref (aM G 0)), some (.int (iN f)), some (.int (iN days)), some (.int (iN wh)), some (.int (iN (cntU (fun c => grB (fv τ) f days.toNat c (wv τ)) (k + 1).toNat))), some (.int (iN (gFst (fun c => grB (fv τ) f days.toNat c (wv τ)) (fun c => τ 7 0 0 f + c / 3 ^ (days - 1).toNat - 1) (k + 1).toNat))), some (.int (iN (k + 1))), none]) ?_ (ih (n - 1) (by omega) (k + 1) _ hb.1 hb.2 (by omega) (by omega) (by omega))
            rw [cntU_s _ g0, gFst_s _ _ g0]
            dsimp only at hfb hgk ⊢
            generalize gFst (fun c => grB (fv τ) f days.toNat c (wv τ)) (fun c => τ 7 0 0 f + c / 3 ^ (days - 1).toNat - 1) k.toNat = gf at *
            generalize cntU (fun c => grB (fv τ) f days.toNat c (wv τ)) k.toNat = cn at *
            generalize grB (fv τ) f days.toNat k (wv τ) = bb at *
            generalize τ 7 0 0 f + k / 3 ^ (days - 1).toNat - 1 = gk at *
            clear ih hgr hb hs hc hwS hfS hFS hWS hgb
            cases bb <;> simp_all
  refine x_iconst (pc' := 1) hE dX9_grazeNow_0 rfl ?_
  refine x_istore (pc' := 3) hE dX9_grazeNow_1 rfl (by decide) rfl rfl ?_
  dsimp only [List.set]
  refine x_iconst (pc' := 4) hE dX9_grazeNow_3 rfl ?_
  refine x_istore (pc' := 6) hE dX9_grazeNow_4 rfl (by decide) rfl rfl ?_
  dsimp only [List.set]
  refine x_aload_n (pc' := 7) hE dX9_grazeNow_6 rfl rfl ?_
  refine x_cV0 (pc' := 10) hE hM (okM G) hl hR (c_X9_save l G _) kX9_save tM_X9_183 (rcvM hM) (by decide) dX9_grazeNow_7 rfl rfl (Nat.le_of_ble_eq_true rfl) (fun σ12 e12 => ?_)
  obtain ⟨hs, hc⟩ := e12
  generalize σ12 = S at *
  refine x_iconst (pc' := 11) hE dX9_grazeNow_10 rfl ?_
  refine x_istore (pc' := 13) hE dX9_grazeNow_11 rfl (by decide) rfl rfl ?_
  dsimp only [List.set]
  exact loop (3 ^ days.toNat : Int).toNat 0 S hs hc (by omega) (by omega) (by omega)
