/-! bits -/
def b5 (b0 b1 b2 b3 b4 : Bool) : Int := (if b0 then 1 else 0) + (if b1 then 2 else 0) + (if b2 then 4 else 0) + (if b3 then 8 else 0) + (if b4 then 16 else 0)
def pk5 (b0 b1 b2 b3 b4 : Bool) (f : Nat) : Bool := match f with | 0 => b0 | 1 => b1 | 2 => b2 | 3 => b3 | _ => b4
theorem mk5_b (q : Int → Bool) : mk5 q = b5 (q 0) (q 1) (q 2) (q 3) (q 4) := rfl
theorem pk5_q (q : Int → Bool) {f : Int} (h0 : 0 ≤ f) (h1 : f < 5) : pk5 (q 0) (q 1) (q 2) (q 3) (q 4) f.toNat = q f := by
  rcases (show f = 0 ∨ f = 1 ∨ f = 2 ∨ f = 3 ∨ f = 4 by omega) with rfl | rfl | rfl | rfl | rfl <;> rfl
theorem bt_dec : ∀ (b0 b1 b2 b3 b4 : Bool) (f : Fin 5), (iN (b5 b0 b1 b2 b3 b4) >>> (iN (f.val : Nat) &&& 31)) &&& iN 1 = iN (if pk5 b0 b1 b2 b3 b4 f.val then 1 else 0) := by decide +kernel
theorem bt_5 (q : Int → Bool) {f : Int} (h0 : 0 ≤ f) (h1 : f < 5) : (iN (mk5 q) >>> (iN f &&& 31)) &&& iN 1 = iN (if q f then 1 else 0) := by
  have h := bt_dec (q 0) (q 1) (q 2) (q 3) (q 4) ⟨f.toNat, by omega⟩
  simp only [pk5_q q h0 h1, Int.toNat_of_nonneg h0] at h
  exact h
theorem so_dec : ∀ (b0 b1 b2 b3 b4 : Bool) (f : Fin 5), iN (b5 b0 b1 b2 b3 b4) ||| (iN 1 <<< (iN (f.val : Nat) &&& 31)) = iN (b5 (b0 || decide (f.val = 0)) (b1 || decide (f.val = 1)) (b2 || decide (f.val = 2)) (b3 || decide (f.val = 3)) (b4 || decide (f.val = 4))) := by decide +kernel
theorem so_5 (q : Int → Bool) {f : Int} (h0 : 0 ≤ f) (h1 : f < 5) : iN (mk5 q) ||| (iN 1 <<< (iN f &&& 31)) = iN (mk5 (fun j => q j || decide (j = f))) := by
  rcases (show f = 0 ∨ f = 1 ∨ f = 2 ∨ f = 3 ∨ f = 4 by omega) with rfl | rfl | rfl | rfl | rfl
  · exact so_dec (q 0) (q 1) (q 2) (q 3) (q 4) 0
  · exact so_dec (q 0) (q 1) (q 2) (q 3) (q 4) 1
  · exact so_dec (q 0) (q 1) (q 2) (q 3) (q 4) 2
  · exact so_dec (q 0) (q 1) (q 2) (q 3) (q 4) 3
  · exact so_dec (q 0) (q 1) (q 2) (q 3) (q 4) 4
theorem an_dec : ∀ (a0 a1 a2 a3 a4 b0 b1 b2 b3 b4 : Bool), iN (b5 a0 a1 a2 a3 a4) &&& (iN (b5 b0 b1 b2 b3 b4) ^^^ iN (-1)) = iN (b5 (a0 && !b0) (a1 && !b1) (a2 && !b2) (a3 && !b3) (a4 && !b4)) := by decide +kernel
theorem an_5 (p q : Int → Bool) : iN (mk5 p) &&& (iN (mk5 q) ^^^ iN (-1)) = iN (mk5 (fun j => p j && !q j)) := an_dec _ _ _ _ _ _ _ _ _ _
theorem Ct_ofF {l : Launch} {Y : SY} {y : MethodName} {cc : ByteArray} {nL : Nat} {ret : Option FieldType} {d : Nat} {av : List Value} {σ : St} {post : Option Value → St → Prop} {own : String} (lv : List (Option Value)) (hy : plainFor y = true) (hyc : y.cls = own) (hn : (lvE av).length ≤ nL) (hlv : lvOf av nL = lv)
    (body : ∀ E : EV, OK E cc nL own ret → Mem Y E → EL E = l → ER E = rmD d → VV E nL (AS Y) (Qm Y post E) (Rh Y σ) 0 lv []) : Ct l Y y (.code y cc nL ret) d av σ post := by
  refine va_MetF (cc := cc) (maxL := nL) (ret := ret) hy rfl ?_
  intro p e s m args below meth c s₁ B hml hv
  obtain ⟨rfl, hR, hK, hN, hSt⟩ := hv
  have hts := atoms_spec (ws := Cond.code y cc nL ret :: TW) B.pre
  have hown : s.vm.findClass y.cls = some m.cls := findClass_of_methodNamed B.named
  have key := body (p, l, e, (headSpec (Cond.code y cc nL ret :: TW) (rmD d)).room, s, m, av.toArray, below, meth, c, 0, 0) ⟨B.exec, B.bytes, hml, hyc ▸ hown, fun w hw => hts w (List.mem_cons_of_mem _ hw), hN, B.notSynchronized, B.returns, Nat.zero_le _, Nat.zero_le _⟩ ⟨hK, hSt⟩ rfl rfl
  have hl := lvh_entry hn
  rw [hlv] at hl
  rw [lg_entry_eq]
  exact key s.heap [] _ hR va_S.rf hl
/-! the class's relations -/
def eaQ (W : Wd) (f : Int) : Bool := decide (f < W 0 1) && decide (W 6 f ≠ -1)
def RW (σ : St) (w : Nat) (W : Wd) : Prop := σ 6 w 0 4 = W 0 0 ∧ σ 6 w 0 5 = W 0 1 ∧ σ 6 w 0 6 = W 0 2 ∧ σ 6 w 0 7 = mk5 (eaQ W) ∧ (∀ p, 0 ≤ p → p < W 0 0 → σ 11 w p 0 = W 1 p ∧ σ 11 w p 1 = W 2 p ∧ σ 11 w p 2 = W 3 p) ∧ (∀ f, 0 ≤ f → f < W 0 1 → σ 12 w f 0 = W 4 f ∧ σ 12 w f 1 = W 5 f ∧ (W 6 f ≠ -1 → σ 12 w f 2 = W 6 f)) ∧ (∀ c, 0 ≤ c → c < 8 → σ 9 w 0 c = W 7 c)
def RF (σ : St) (F : Int → Bool) : Prop := (∀ d, 0 ≤ d → d < 210 → σ 4 0 0 d = if F d then 1 else 0) ∧ ∀ d, 0 ≤ d → F (d % 210) = F d
/-- a day on world w leaves all else -/
def FrD (w : Nat) (σ σ' : St) : Prop := ∀ a b c d, ¬ (b = w ∧ (a = 6 ∧ (d = 6 ∨ d = 7) ∨ a = 12)) → σ' a b c d = σ a b c d
/-- a world written over leaves all else -/
def FrA (w : Nat) (σ σ' : St) : Prop := ∀ a b c d, ¬ (b = w ∧ 6 ≤ a) → σ' a b c d = σ a b c d
theorem FrD.refl (w : Nat) (σ : St) : FrD w σ σ := fun _ _ _ _ _ => rfl
theorem FrA.refl (w : Nat) (σ : St) : FrA w σ σ := fun _ _ _ _ _ => rfl
theorem FrD.trans {w : Nat} {a b c : St} (h1 : FrD w a b) (h2 : FrD w b c) : FrD w a c := fun k i x y h => (h2 k i x y h).trans (h1 k i x y h)
theorem FrA.trans {w : Nat} {a b c : St} (h1 : FrA w a b) (h2 : FrA w b c) : FrA w a c := fun k i x y h => (h2 k i x y h).trans (h1 k i x y h)
theorem FrD.fa {w : Nat} {a b : St} (h : FrD w a b) : FrA w a b := fun k i x y q => h k i x y (by omega)
theorem FrA.rf {w : Nat} {σ σ' : St} {F : Int → Bool} (h : FrA w σ σ') (hF : RF σ F) : RF σ' F := ⟨fun d d0 d1 => by rw [h 4 0 0 d (by omega)]; exact hF.1 d d0 d1, hF.2⟩
theorem FrA.rw {w w' : Nat} {σ σ' : St} {W : Wd} (h : FrA w σ σ') (hn : w' ≠ w) (hW : RW σ w' W) : RW σ' w' W := by
  obtain ⟨h1, h2, h3, h4, h5, h6, h7⟩ := hW
  refine ⟨by rw [h _ _ _ _ (by omega)]; exact h1, by rw [h _ _ _ _ (by omega)]; exact h2, by rw [h _ _ _ _ (by omega)]; exact h3, by rw [h _ _ _ _ (by omega)]; exact h4, fun p p0 p1 => ?_, fun f f0 f1 => ?_, fun c c0 c1 => ?_⟩
  · rw [h _ _ _ _ (by omega), h _ _ _ _ (by omega), h _ _ _ _ (by omega)]; exact h5 p p0 p1
  · rw [h _ _ _ _ (by omega), h _ _ _ _ (by omega), h _ _ _ _ (by omega)]; exact h6 f f0 f1
  · rw [h _ _ _ _ (by omega)]; exact h7 c c0 c1
def fsR (F : Int → Bool) (k r : Int) : Bool := (decide (r % 7 = 5) && decide (k ≠ 2)) || (decide (k ≠ 1) && F r) || (decide (k = 4) && F (r + 1))
theorem fsB_r (F : Int → Bool) (k f g d : Int) : fsB F k f g d = fsR F k (rdB k f g d) := rfl
theorem fm7 : ∀ k : Fin 400, iN ((k.val : Int) - 200) - iN ((k.val : Int) - 200) / iN 7 * iN 7 = iN (Int.tmod ((k.val : Int) - 200) 7) ∧ (0 ≤ (iN ((k.val : Int) - 200) ^^^ iN 7).toInt ↔ 0 ≤ (k.val : Int) - 200) ∧ (0 ≤ (k.val : Int) - 200 → Int.tmod ((k.val : Int) - 200) 7 = ((k.val : Int) - 200) % 7) ∧ (Int.tmod ((k.val : Int) - 200) 7 = 0 → ((k.val : Int) - 200) % 7 = 0) ∧ ((k.val : Int) - 200 < 0 → Int.tmod ((k.val : Int) - 200) 7 ≠ 0 → Int.tmod ((k.val : Int) - 200) 7 + 7 = ((k.val : Int) - 200) % 7) ∧ -7 < Int.tmod ((k.val : Int) - 200) 7 ∧ Int.tmod ((k.val : Int) - 200) 7 < 7 := by decide +kernel
theorem fm7x {x : Int} (h0 : -200 ≤ x) (h1 : x < 200) : iN x - iN x / iN 7 * iN 7 = iN (Int.tmod x 7) ∧ (0 ≤ (iN x ^^^ iN 7).toInt ↔ 0 ≤ x) ∧ (0 ≤ x → Int.tmod x 7 = x % 7) ∧ (Int.tmod x 7 = 0 → x % 7 = 0) ∧ (x < 0 → Int.tmod x 7 ≠ 0 → Int.tmod x 7 + 7 = x % 7) ∧ -7 < Int.tmod x 7 ∧ Int.tmod x 7 < 7 := by
  have h := fm7 ⟨(x + 200).toNat, by omega⟩
  have e : (((x + 200).toNat : Nat) : Int) - 200 = x := by omega
  simp only [e] at h
  exact h
set_option maxHeartbeats 4000000 in
set_option maxRecDepth 10000 in
theorem c_J9_floorMod_7cf53 (l : Launch) (G : GC) (σ : St) (x : Int) (h0 : -200 ≤ x) (h1 : x < 200) : Ct l (YC G) yJ9_floorMod_7cf53 (.code yJ9_floorMod_7cf53 cJ9_floorMod_7cf53 3 (some .int)) 0 [.int (iN x), .int (iN 7)] σ (fun v σ' => v = some (.int (iN (x % 7))) ∧ σ' = σ) := by
  refine Ct_ofF (own := RJ9) [some (.int (iN x)), some (.int (iN 7)), none] (by decide +kernel) rfl (Nat.le_of_ble_eq_true rfl) rfl ?_
  intro E hE hM hl hR
  obtain ⟨f1, f2, f3, f4, f5, f6, f7⟩ := fm7x h0 h1
  have hx := inR_of (iN x ^^^ iN 7)
  unfold inR at hx
  refine x_iload_n (pc' := 1) hE dJ9_floorMod_7cf53_0 rfl rfl ?_
  refine x_iload_n (pc' := 2) hE dJ9_floorMod_7cf53_1 rfl rfl ?_
  refine x_iremR (pc' := 3) hE dJ9_floorMod_7cf53_2 rfl (by decide +kernel) ?_
  refine x_st (st' := [.int (iN (Int.tmod x 7))]) (by rw [← f1]) ?_
  refine x_istore_n (pc' := 4) hE dJ9_floorMod_7cf53_3 rfl (by decide) rfl rfl ?_
  dsimp only [List.set]
  refine x_iload_n (pc' := 5) hE dJ9_floorMod_7cf53_4 rfl rfl ?_
  refine x_iload_n (pc' := 6) hE dJ9_floorMod_7cf53_5 rfl rfl ?_
  refine x_ixor (pc' := 7) hE dJ9_floorMod_7cf53_6 rfl ?_
  refine x_st (st' := [.int (iN ((iN x ^^^ iN 7).toInt))]) (by rw [iN_asI]) ?_
  refine x_ifge (tgt := 18) (pc' := 10) hE dJ9_floorMod_7cf53_7 (by decide) rfl ⟨by omega, by omega⟩ (fun h1 => ?_) (fun h1 => ?_)
  · refine x_iload_n (pc' := 19) hE dJ9_floorMod_7cf53_18 rfl rfl ?_
    refine x_iret hE dJ9_floorMod_7cf53_19 ?_
    refine ⟨ ri ?_, rfl⟩
    omega
  · refine x_iload_n (pc' := 11) hE dJ9_floorMod_7cf53_10 rfl rfl ?_
    refine x_ifeq (tgt := 18) (pc' := 14) hE dJ9_floorMod_7cf53_11 (by decide) rfl ⟨by omega, by omega⟩ (fun h2 => ?_) (fun h2 => ?_)
    · refine x_iload_n (pc' := 19) hE dJ9_floorMod_7cf53_18 rfl rfl ?_
      refine x_iret hE dJ9_floorMod_7cf53_19 ?_
      refine ⟨ ri ?_, rfl⟩
      omega
    · refine x_iload_n (pc' := 15) hE dJ9_floorMod_7cf53_14 rfl rfl ?_
      refine x_iload_n (pc' := 16) hE dJ9_floorMod_7cf53_15 rfl rfl ?_
      refine x_iaddR (pc' := 17) hE dJ9_floorMod_7cf53_16 rfl ?_
      refine x_iret hE dJ9_floorMod_7cf53_17 ?_
      refine ⟨?_, rfl⟩
      rw [iN_add]
      exact ri (by omega)
def bcS (i : Int32) (s : Int32) : Int32 := (i.toUInt32 >>> (s.toUInt32 &&& Int32.toUInt32 31)).toInt32
def bcA (i : Int32) : Int32 := i - (bcS i (iN 1) &&& iN 1431655765)
def bcB (i : Int32) : Int32 := (i &&& iN 858993459) + (bcS i (iN 2) &&& iN 858993459)
def bcC (i : Int32) : Int32 := (i + bcS i (iN 4)) &&& iN 252645135
def bcD (i : Int32) : Int32 := i + bcS i (iN 8)
def bcE (i : Int32) : Int32 := (i + bcS i (iN 16)) &&& iN 63
theorem bc_dec : ∀ b0 b1 b2 b3 b4 : Bool, iN ((if b0 then 1 else 0) + (if b1 then 1 else 0) + (if b2 then 1 else 0) + (if b3 then 1 else 0) + (if b4 then 1 else 0)) = bcE (bcD (bcC (bcB (bcA (iN (b5 b0 b1 b2 b3 b4)))))) := by decide +kernel
theorem bc_5 (q : Int → Bool) : iN (cntU q 5) = bcE (bcD (bcC (bcB (bcA (iN (mk5 q)))))) := by
  rw [mk5_b, ← bc_dec]
  simp [cntU]
set_option maxHeartbeats 4000000 in
set_option maxRecDepth 10000 in
theorem c_J6_bitCount_0f7a4 (l : Launch) (G : GC) (σ : St) (q : Int → Bool) : Ct l (YC G) yJ6_bitCount_0f7a4 (.code yJ6_bitCount_0f7a4 cJ6_bitCount_0f7a4 1 (some .int)) 0 [.int (iN (mk5 q))] σ (fun v σ' => v = some (.int (iN (cntU q 5))) ∧ σ' = σ) := by
  refine Ct_ofF (own := RJ6) [some (.int (iN (mk5 q)))] (by decide +kernel) rfl (Nat.le_of_ble_eq_true rfl) rfl ?_
  intro E hE hM hl hR
  refine x_iload_n (pc' := 1) hE dJ6_bitCount_0f7a4_0 rfl rfl ?_
  refine x_iload_n (pc' := 2) hE dJ6_bitCount_0f7a4_1 rfl rfl ?_
  refine x_iconst (pc' := 3) hE dJ6_bitCount_0f7a4_2 rfl ?_
  refine x_iushr (pc' := 4) hE dJ6_bitCount_0f7a4_3 rfl ?_
  refine x_ldcw (pc' := 7) hE dJ6_bitCount_0f7a4_4 rfl tV_J6_265 ?_
  refine x_iand (pc' := 8) hE dJ6_bitCount_0f7a4_7 rfl ?_
  refine x_isubR (pc' := 9) hE dJ6_bitCount_0f7a4_8 rfl ?_
  refine x_istore_n (pc' := 10) hE dJ6_bitCount_0f7a4_9 rfl (by decide) rfl rfl ?_
  dsimp only [List.set]
  refine x_iload_n (pc' := 11) hE dJ6_bitCount_0f7a4_10 rfl rfl ?_
  refine x_ldcw (pc' := 14) hE dJ6_bitCount_0f7a4_11 rfl tV_J6_266 ?_
  refine x_iand (pc' := 15) hE dJ6_bitCount_0f7a4_14 rfl ?_
  refine x_iload_n (pc' := 16) hE dJ6_bitCount_0f7a4_15 rfl rfl ?_
  refine x_iconst (pc' := 17) hE dJ6_bitCount_0f7a4_16 rfl ?_
  refine x_iushr (pc' := 18) hE dJ6_bitCount_0f7a4_17 rfl ?_
  refine x_ldcw (pc' := 21) hE dJ6_bitCount_0f7a4_18 rfl tV_J6_266 ?_
  refine x_iand (pc' := 22) hE dJ6_bitCount_0f7a4_21 rfl ?_
  refine x_iaddR (pc' := 23) hE dJ6_bitCount_0f7a4_22 rfl ?_
  refine x_istore_n (pc' := 24) hE dJ6_bitCount_0f7a4_23 rfl (by decide) rfl rfl ?_
  dsimp only [List.set]
  refine x_iload_n (pc' := 25) hE dJ6_bitCount_0f7a4_24 rfl rfl ?_
  refine x_iload_n (pc' := 26) hE dJ6_bitCount_0f7a4_25 rfl rfl ?_
  refine x_iconst (pc' := 27) hE dJ6_bitCount_0f7a4_26 rfl ?_
  refine x_iushr (pc' := 28) hE dJ6_bitCount_0f7a4_27 rfl ?_
  refine x_iaddR (pc' := 29) hE dJ6_bitCount_0f7a4_28 rfl ?_
  refine x_ldcw (pc' := 32) hE dJ6_bitCount_0f7a4_29 rfl tV_J6_267 ?_
  refine x_iand (pc' := 33) hE dJ6_bitCount_0f7a4_32 rfl ?_
  refine x_istore_n (pc' := 34) hE dJ6_bitCount_0f7a4_33 rfl (by decide) rfl rfl ?_
  dsimp only [List.set]
  refine x_iload_n (pc' := 35) hE dJ6_bitCount_0f7a4_34 rfl rfl ?_
  refine x_iload_n (pc' := 36) hE dJ6_bitCount_0f7a4_35 rfl rfl ?_
  refine x_bipush (pc' := 38) hE dJ6_bitCount_0f7a4_36 rfl (by decide +kernel) ?_
  refine x_iushr (pc' := 39) hE dJ6_bitCount_0f7a4_38 rfl ?_
  refine x_iaddR (pc' := 40) hE dJ6_bitCount_0f7a4_39 rfl ?_
  refine x_istore_n (pc' := 41) hE dJ6_bitCount_0f7a4_40 rfl (by decide) rfl rfl ?_
  dsimp only [List.set]
  refine x_iload_n (pc' := 42) hE dJ6_bitCount_0f7a4_41 rfl rfl ?_
  refine x_iload_n (pc' := 43) hE dJ6_bitCount_0f7a4_42 rfl rfl ?_
  refine x_bipush (pc' := 45) hE dJ6_bitCount_0f7a4_43 rfl (by decide +kernel) ?_
  refine x_iushr (pc' := 46) hE dJ6_bitCount_0f7a4_45 rfl ?_
  refine x_iaddR (pc' := 47) hE dJ6_bitCount_0f7a4_46 rfl ?_
  refine x_istore_n (pc' := 48) hE dJ6_bitCount_0f7a4_47 rfl (by decide) rfl rfl ?_
  dsimp only [List.set]
  refine x_iload_n (pc' := 49) hE dJ6_bitCount_0f7a4_48 rfl rfl ?_
  refine x_bipush (pc' := 51) hE dJ6_bitCount_0f7a4_49 rfl (by decide +kernel) ?_
  refine x_iand (pc' := 52) hE dJ6_bitCount_0f7a4_51 rfl ?_
  refine x_iret hE dJ6_bitCount_0f7a4_52 ?_
  refine ⟨?_, rfl⟩
  rw [bc_5 q]
  rfl
set_option maxHeartbeats 4000000 in
set_option maxRecDepth 10000 in
theorem c_X3_isSuch (l : Launch) (G : GC) (σ : St) (k j : Int) (k0 : 0 ≤ k) (k1 : k ≤ 4) (j0 : 0 ≤ j) (j1 : j ≤ 4) : Ct l (YC G) yX3_isSuch (.code yX3_isSuch cX3_isSuch 2 (some .boolean)) 0 [.ref (eC G k), .ref (eC G j)] σ (fun v σ' => v = some (.int (bI (decide (j = 0 ∨ k = j ∨ (k = 4 ∧ j = 3))))) ∧ σ' = σ) := by
  refine Ct_of (own := RX3) [some (.ref (eC G k)), some (.ref (eC G j))] rfl rfl (Nat.le_of_ble_eq_true rfl) rfl ?_
  intro E hE hM hl hR
  refine x_aload_n (pc' := 1) hE dX3_isSuch_0 rfl rfl ?_
  refine x_sget (pc' := 4) (i := 0) hE hM (by decide) rfl tF_X3_5 dX3_isSuch_1 rfl ?_
  refine x_acmpeqK (tgt := 26) (pc' := 7) (by omega) (by omega) (by omega) (by omega) hE hM dX3_isSuch_4 (by decide) rfl (fun h1 => ?_) (fun h1 => ?_)
  · refine x_iconst (pc' := 27) hE dX3_isSuch_26 rfl ?_
    refine x_goto (tgt := 31) hE dX3_isSuch_27 (by decide) ?_
    refine x_zret hE dX3_isSuch_31 (by rfl) ?_
    exact ⟨rb1 (by simp; omega), rfl⟩
  · refine x_aload_n (pc' := 8) hE dX3_isSuch_7 rfl rfl ?_
    refine x_aload_n (pc' := 9) hE dX3_isSuch_8 rfl rfl ?_
    refine x_acmpeqK (tgt := 26) (pc' := 12) (by omega) (by omega) (by omega) (by omega) hE hM dX3_isSuch_9 (by decide) rfl (fun h2 => ?_) (fun h2 => ?_)
    · refine x_iconst (pc' := 27) hE dX3_isSuch_26 rfl ?_
      refine x_goto (tgt := 31) hE dX3_isSuch_27 (by decide) ?_
      refine x_zret hE dX3_isSuch_31 (by rfl) ?_
      exact ⟨rb1 (by simp; omega), rfl⟩
    · refine x_aload_n (pc' := 13) hE dX3_isSuch_12 rfl rfl ?_
      refine x_sget (pc' := 16) (i := 4) hE hM (by decide) rfl tF_X3_18 dX3_isSuch_13 rfl ?_
      refine x_acmpneK (tgt := 30) (pc' := 19) (by omega) (by omega) (by omega) (by omega) hE hM dX3_isSuch_16 (by decide) rfl (fun h3 => ?_) (fun h3 => ?_)
      · refine x_iconst (pc' := 31) hE dX3_isSuch_30 rfl ?_
        refine x_zret hE dX3_isSuch_31 (by rfl) ?_
        exact ⟨rb0 (by simp; omega), rfl⟩
      · refine x_aload_n (pc' := 20) hE dX3_isSuch_19 rfl rfl ?_
        refine x_sget (pc' := 23) (i := 3) hE hM (by decide) rfl tF_X3_15 dX3_isSuch_20 rfl ?_
        refine x_acmpneK (tgt := 30) (pc' := 26) (by omega) (by omega) (by omega) (by omega) hE hM dX3_isSuch_23 (by decide) rfl (fun h4 => ?_) (fun h4 => ?_)
        · refine x_iconst (pc' := 31) hE dX3_isSuch_30 rfl ?_
          refine x_zret hE dX3_isSuch_31 (by rfl) ?_
          exact ⟨rb0 (by simp; omega), rfl⟩
        · refine x_iconst (pc' := 27) hE dX3_isSuch_26 rfl ?_
          refine x_goto (tgt := 31) hE dX3_isSuch_27 (by decide) ?_
          refine x_zret hE dX3_isSuch_31 (by rfl) ?_
          exact ⟨rb1 (by simp; omega), rfl⟩
set_option maxHeartbeats 4000000 in
set_option maxRecDepth 10000 in
theorem c_X3_reads (l : Launch) (G : GC) (σ : St) (k f g d : Int) (k0 : 0 ≤ k) (k1 : k ≤ 4) : Ct l (YC G) yX3_reads (.code yX3_reads cX3_reads 4 (some .int)) 0 [.ref (eC G k), .int (iN d), .int (iN f), .int (iN g)] σ (fun v σ' => v = some (.int (iN (rdB k f g d))) ∧ σ' = σ) := by
  refine Ct_of (own := RX3) [some (.ref (eC G k)), some (.int (iN d)), some (.int (iN f)), some (.int (iN g))] rfl rfl (Nat.le_of_ble_eq_true rfl) rfl ?_
  intro E hE hM hl hR
  refine x_iload_n (pc' := 1) hE dX3_reads_0 rfl rfl ?_
  refine x_iload_n (pc' := 2) hE dX3_reads_1 rfl rfl ?_
  refine x_iadd (pc' := 3) hE dX3_reads_2 rfl ?_
  refine x_sipush (pc' := 6) hE dX3_reads_3 rfl (by decide +kernel) ?_
  refine x_iadd (pc' := 7) hE dX3_reads_6 rfl ?_
  refine x_aload_n (pc' := 8) hE dX3_reads_7 rfl rfl ?_
  refine kg_3 (pc' := 11) (by omega) (by omega) hE hM tF_X3_51 dX3_reads_8 rfl ?_
  refine x_ifeqB (tgt := 18) (pc' := 14) hE dX3_reads_11 (by decide) rfl (fun h1 => ?_) (fun h1 => ?_)
  · try simp only [decide_eq_true_eq, decide_eq_false_iff_not] at h1
    refine x_iconst (pc' := 19) hE dX3_reads_18 rfl ?_
    refine x_isub (pc' := 20) hE dX3_reads_19 rfl ?_
    refine x_iret hE dX3_reads_20 ?_
    refine ⟨ri ?_, rfl⟩
    unfold rdB
    split <;> simp_all
  · try simp only [decide_eq_true_eq, decide_eq_false_iff_not] at h1
    refine x_iload_n (pc' := 15) hE dX3_reads_14 rfl rfl ?_
    refine x_goto (tgt := 19) hE dX3_reads_15 (by decide) ?_
    refine x_isub (pc' := 20) hE dX3_reads_19 rfl ?_
    refine x_iret hE dX3_reads_20 ?_
    refine ⟨ri ?_, rfl⟩
    unfold rdB
    split <;> simp_all
set_option maxHeartbeats 4000000 in
set_option maxRecDepth 10000 in
theorem c_X1_isFeast (l : Launch) (G : GC) (σ : St) (F : Int → Bool) (hF : RF σ F) (z : Int) (z0 : 0 ≤ z) (z1 : z < 100000000) : Ct l (YC G) yX1_isFeast (.code yX1_isFeast cX1_isFeast 2 (some .boolean)) 0 [.ref (aC G 3 0 0), .int (iN z)] σ (fun v σ' => v = some (.int (bI (F z))) ∧ σ' = σ) := by
  refine Ct_of (own := RX1) [some (.ref (aC G 3 0 0)), some (.int (iN z))] rfl rfl (Nat.le_of_ble_eq_true rfl) rfl ?_
  intro E hE hM hl hR
  have hz := hF.1 (z % 210) (by omega) (by omega)
  rw [hF.2 z z0] at hz
  refine x_iload_n (pc' := 1) hE dX1_isFeast_0 rfl rfl ?_
  refine x_iflt (tgt := 21) (pc' := 4) hE dX1_isFeast_1 (by decide) rfl ⟨by omega, by omega⟩ (fun h1 => ?_) (fun h1 => ?_)
  · refine x_iconst (pc' := 22) hE dX1_isFeast_21 rfl ?_
    refine x_zret hE dX1_isFeast_22 (by rfl) ?_
    exact absurd h1 (by omega)
  · refine x_aload_n (pc' := 5) hE dX1_isFeast_4 rfl rfl ?_
    refine g_X1_0 (pc' := 8) hE hM tF_X1_9 dX1_isFeast_5 rfl ?_
    refine x_iload_n (pc' := 9) hE dX1_isFeast_8 rfl rfl ?_
    refine x_sipush (pc' := 12) hE dX1_isFeast_9 rfl (by decide +kernel) ?_
    refine x_irem (pc' := 13) hE dX1_isFeast_12 rfl (by omega) (by omega) (by omega) (by omega) ?_
    refine aC_4 (pc' := 14) hE hM (by omega) (by omega) dX1_isFeast_13 rfl ?_
    rw [hz]
    have hb : inR (if F z = true then 1 else 0) := by unfold inR; split <;> omega
    refine x_ifeq (tgt := 21) (pc' := 17) hE dX1_isFeast_14 (by decide) rfl hb (fun h2 => ?_) (fun h2 => ?_)
    · refine x_iconst (pc' := 22) hE dX1_isFeast_21 rfl ?_
      refine x_zret hE dX1_isFeast_22 (by rfl) ?_
      exact ⟨rb0 (by by_cases q : F z = true; simp [q] at *; simpa using q), rfl⟩
    · refine x_iconst (pc' := 18) hE dX1_isFeast_17 rfl ?_
      refine x_goto (tgt := 22) hE dX1_isFeast_18 (by decide) ?_
      refine x_zret hE dX1_isFeast_22 (by rfl) ?_
      exact ⟨rb1 (by by_cases q : F z = true; exact q; simp [q] at *), rfl⟩
set_option maxHeartbeats 4000000 in
set_option maxRecDepth 10000 in
theorem c_X3_fastsOn (l : Launch) (G : GC) (σ : St) (F : Int → Bool) (hF : RF σ F) (k r : Int) (k0 : 0 ≤ k) (k1 : k ≤ 4) (r0 : 0 ≤ r) (r1 : r < 90000000) : Ct l (YC G) yX3_fastsOn (.code yX3_fastsOn cX3_fastsOn 3 (some .boolean)) 1 [.ref (eC G k), .int (iN r), .ref (aC G 3 0 0)] σ (fun v σ' => v = some (.int (bI (fsR F k r))) ∧ σ' = σ) := by
  refine Ct_of (own := RX3) [some (.ref (eC G k)), some (.int (iN r)), some (.ref (aC G 3 0 0))] rfl rfl (Nat.le_of_ble_eq_true rfl) rfl ?_
  intro E hE hM hl hR
  refine x_aload_n (pc' := 1) hE dX3_fastsOn_0 rfl rfl ?_
  refine kg_1 (pc' := 4) (by omega) (by omega) hE hM tF_X3_44 dX3_fastsOn_1 rfl ?_
  refine x_ifeqB (tgt := 15) (pc' := 7) hE dX3_fastsOn_4 (by decide) rfl (fun h1 => ?_) (fun h1 => ?_)
  · try simp only [decide_eq_true_eq, decide_eq_false_iff_not] at h1
    refine x_aload_n (pc' := 16) hE dX3_fastsOn_15 rfl rfl ?_
    refine kg_2 (pc' := 19) (by omega) (by omega) hE hM tF_X3_48 dX3_fastsOn_16 rfl ?_
    refine x_ifeqB (tgt := 30) (pc' := 22) hE dX3_fastsOn_19 (by decide) rfl (fun h2 => ?_) (fun h2 => ?_)
    · try simp only [decide_eq_true_eq, decide_eq_false_iff_not] at h2
      refine x_aload_n (pc' := 31) hE dX3_fastsOn_30 rfl rfl ?_
      refine kg_4 (pc' := 34) (by omega) (by omega) hE hM tF_X3_54 dX3_fastsOn_31 rfl ?_
      refine x_ifeqB (tgt := 51) (pc' := 37) hE dX3_fastsOn_34 (by decide) rfl (fun h3 => ?_) (fun h3 => ?_)
      · try simp only [decide_eq_true_eq, decide_eq_false_iff_not] at h3
        refine x_iconst (pc' := 52) hE dX3_fastsOn_51 rfl ?_
        refine x_zret hE dX3_fastsOn_52 (by rfl) ?_
        refine ⟨rb0 ?_, rfl⟩
        unfold fsR
        simp_all
      · try simp only [decide_eq_true_eq, decide_eq_false_iff_not] at h3
        refine x_aload_n (pc' := 38) hE dX3_fastsOn_37 rfl rfl ?_
        refine x_iload_n (pc' := 39) hE dX3_fastsOn_38 rfl rfl ?_
        refine x_iconst (pc' := 40) hE dX3_fastsOn_39 rfl ?_
        refine x_iadd (pc' := 41) hE dX3_fastsOn_40 rfl ?_
        refine x_cV1 (pc' := 44) hE hM (okC G) hl hR (c_X1_isFeast l G _ _ (by assumption) _ (by omega) (by omega)) kX1_isFeast tM_X3_57 (rcv_X1 hM) (by decide) dX3_fastsOn_41 rfl rfl (Nat.le_of_ble_eq_true rfl) (fun σ4 e4 => ?_)
        replace e4 := e4.symm
        subst e4
        refine x_ifeqB (tgt := 51) (pc' := 47) hE dX3_fastsOn_44 (by decide) rfl (fun h5 => ?_) (fun h5 => ?_)
        · try simp only [decide_eq_true_eq, decide_eq_false_iff_not] at h5
          refine x_iconst (pc' := 52) hE dX3_fastsOn_51 rfl ?_
          refine x_zret hE dX3_fastsOn_52 (by rfl) ?_
          refine ⟨rb0 ?_, rfl⟩
          unfold fsR
          simp_all
        · try simp only [decide_eq_true_eq, decide_eq_false_iff_not] at h5
          refine x_iconst (pc' := 48) hE dX3_fastsOn_47 rfl ?_
          refine x_goto (tgt := 52) hE dX3_fastsOn_48 (by decide) ?_
          refine x_zret hE dX3_fastsOn_52 (by rfl) ?_
          refine ⟨rb1 ?_, rfl⟩
          unfold fsR
          simp_all
    · try simp only [decide_eq_true_eq, decide_eq_false_iff_not] at h2
      refine x_aload_n (pc' := 23) hE dX3_fastsOn_22 rfl rfl ?_
      refine x_iload_n (pc' := 24) hE dX3_fastsOn_23 rfl rfl ?_
      refine x_cV1 (pc' := 27) hE hM (okC G) hl hR (c_X1_isFeast l G _ _ (by assumption) _ (by omega) (by omega)) kX1_isFeast tM_X3_57 (rcv_X1 hM) (by decide) dX3_fastsOn_24 rfl rfl (Nat.le_of_ble_eq_true rfl) (fun σ6 e6 => ?_)
      replace e6 := e6.symm
      subst e6
      refine x_ifneB (tgt := 47) (pc' := 30) hE dX3_fastsOn_27 (by decide) rfl (fun h7 => ?_) (fun h7 => ?_)
      · try simp only [decide_eq_true_eq, decide_eq_false_iff_not] at h7
        refine x_iconst (pc' := 48) hE dX3_fastsOn_47 rfl ?_
        refine x_goto (tgt := 52) hE dX3_fastsOn_48 (by decide) ?_
        refine x_zret hE dX3_fastsOn_52 (by rfl) ?_
        refine ⟨rb1 ?_, rfl⟩
        unfold fsR
        simp_all
      · try simp only [decide_eq_true_eq, decide_eq_false_iff_not] at h7
        refine x_aload_n (pc' := 31) hE dX3_fastsOn_30 rfl rfl ?_
        refine kg_4 (pc' := 34) (by omega) (by omega) hE hM tF_X3_54 dX3_fastsOn_31 rfl ?_
        refine x_ifeqB (tgt := 51) (pc' := 37) hE dX3_fastsOn_34 (by decide) rfl (fun h8 => ?_) (fun h8 => ?_)
        · try simp only [decide_eq_true_eq, decide_eq_false_iff_not] at h8
          refine x_iconst (pc' := 52) hE dX3_fastsOn_51 rfl ?_
          refine x_zret hE dX3_fastsOn_52 (by rfl) ?_
          refine ⟨rb0 ?_, rfl⟩
          unfold fsR
          simp_all
        · try simp only [decide_eq_true_eq, decide_eq_false_iff_not] at h8
          refine x_aload_n (pc' := 38) hE dX3_fastsOn_37 rfl rfl ?_
          refine x_iload_n (pc' := 39) hE dX3_fastsOn_38 rfl rfl ?_
          refine x_iconst (pc' := 40) hE dX3_fastsOn_39 rfl ?_
          refine x_iadd (pc' := 41) hE dX3_fastsOn_40 rfl ?_
          refine x_cV1 (pc' := 44) hE hM (okC G) hl hR (c_X1_isFeast l G _ _ (by assumption) _ (by omega) (by omega)) kX1_isFeast tM_X3_57 (rcv_X1 hM) (by decide) dX3_fastsOn_41 rfl rfl (Nat.le_of_ble_eq_true rfl) (fun σ9 e9 => ?_)
          replace e9 := e9.symm
          subst e9
          refine x_ifeqB (tgt := 51) (pc' := 47) hE dX3_fastsOn_44 (by decide) rfl (fun h10 => ?_) (fun h10 => ?_)
          · try simp only [decide_eq_true_eq, decide_eq_false_iff_not] at h10
            refine x_iconst (pc' := 52) hE dX3_fastsOn_51 rfl ?_
            refine x_zret hE dX3_fastsOn_52 (by rfl) ?_
            refine ⟨rb0 ?_, rfl⟩
            unfold fsR
            simp_all
          · try simp only [decide_eq_true_eq, decide_eq_false_iff_not] at h10
            refine x_iconst (pc' := 48) hE dX3_fastsOn_47 rfl ?_
            refine x_goto (tgt := 52) hE dX3_fastsOn_48 (by decide) ?_
            refine x_zret hE dX3_fastsOn_52 (by rfl) ?_
            refine ⟨rb1 ?_, rfl⟩
            unfold fsR
            simp_all
  · try simp only [decide_eq_true_eq, decide_eq_false_iff_not] at h1
    refine x_iload_n (pc' := 8) hE dX3_fastsOn_7 rfl rfl ?_
    refine x_bipush (pc' := 10) hE dX3_fastsOn_8 rfl (by decide +kernel) ?_
    refine x_irem (pc' := 11) hE dX3_fastsOn_10 rfl (by omega) (by omega) (by omega) (by omega) ?_
    refine x_iconst (pc' := 12) hE dX3_fastsOn_11 rfl ?_
    refine x_icmpeq (tgt := 47) (pc' := 15) hE dX3_fastsOn_12 (by decide) rfl ⟨by omega, by omega⟩ ⟨by omega, by omega⟩ (fun h11 => ?_) (fun h11 => ?_)
    · refine x_iconst (pc' := 48) hE dX3_fastsOn_47 rfl ?_
      refine x_goto (tgt := 52) hE dX3_fastsOn_48 (by decide) ?_
      refine x_zret hE dX3_fastsOn_52 (by rfl) ?_
      refine ⟨rb1 ?_, rfl⟩
      unfold fsR
      simp_all
    · refine x_aload_n (pc' := 16) hE dX3_fastsOn_15 rfl rfl ?_
      refine kg_2 (pc' := 19) (by omega) (by omega) hE hM tF_X3_48 dX3_fastsOn_16 rfl ?_
      refine x_ifeqB (tgt := 30) (pc' := 22) hE dX3_fastsOn_19 (by decide) rfl (fun h12 => ?_) (fun h12 => ?_)
      · try simp only [decide_eq_true_eq, decide_eq_false_iff_not] at h12
        refine x_aload_n (pc' := 31) hE dX3_fastsOn_30 rfl rfl ?_
        refine kg_4 (pc' := 34) (by omega) (by omega) hE hM tF_X3_54 dX3_fastsOn_31 rfl ?_
        refine x_ifeqB (tgt := 51) (pc' := 37) hE dX3_fastsOn_34 (by decide) rfl (fun h13 => ?_) (fun h13 => ?_)
        · try simp only [decide_eq_true_eq, decide_eq_false_iff_not] at h13
          refine x_iconst (pc' := 52) hE dX3_fastsOn_51 rfl ?_
          refine x_zret hE dX3_fastsOn_52 (by rfl) ?_
          refine ⟨rb0 ?_, rfl⟩
          unfold fsR
          simp_all
        · try simp only [decide_eq_true_eq, decide_eq_false_iff_not] at h13
          refine x_aload_n (pc' := 38) hE dX3_fastsOn_37 rfl rfl ?_
          refine x_iload_n (pc' := 39) hE dX3_fastsOn_38 rfl rfl ?_
          refine x_iconst (pc' := 40) hE dX3_fastsOn_39 rfl ?_
          refine x_iadd (pc' := 41) hE dX3_fastsOn_40 rfl ?_
          refine x_cV1 (pc' := 44) hE hM (okC G) hl hR (c_X1_isFeast l G _ _ (by assumption) _ (by omega) (by omega)) kX1_isFeast tM_X3_57 (rcv_X1 hM) (by decide) dX3_fastsOn_41 rfl rfl (Nat.le_of_ble_eq_true rfl) (fun σ14 e14 => ?_)
          replace e14 := e14.symm
          subst e14
          refine x_ifeqB (tgt := 51) (pc' := 47) hE dX3_fastsOn_44 (by decide) rfl (fun h15 => ?_) (fun h15 => ?_)
          · try simp only [decide_eq_true_eq, decide_eq_false_iff_not] at h15
            refine x_iconst (pc' := 52) hE dX3_fastsOn_51 rfl ?_
            refine x_zret hE dX3_fastsOn_52 (by rfl) ?_
            refine ⟨rb0 ?_, rfl⟩
            unfold fsR
            simp_all
          · try simp only [decide_eq_true_eq, decide_eq_false_iff_not] at h15
            refine x_iconst (pc' := 48) hE dX3_fastsOn_47 rfl ?_
            refine x_goto (tgt := 52) hE dX3_fastsOn_48 (by decide) ?_
            refine x_zret hE dX3_fastsOn_52 (by rfl) ?_
            refine ⟨rb1 ?_, rfl⟩
            unfold fsR
            simp_all
      · try simp only [decide_eq_true_eq, decide_eq_false_iff_not] at h12
        refine x_aload_n (pc' := 23) hE dX3_fastsOn_22 rfl rfl ?_
        refine x_iload_n (pc' := 24) hE dX3_fastsOn_23 rfl rfl ?_
        refine x_cV1 (pc' := 27) hE hM (okC G) hl hR (c_X1_isFeast l G _ _ (by assumption) _ (by omega) (by omega)) kX1_isFeast tM_X3_57 (rcv_X1 hM) (by decide) dX3_fastsOn_24 rfl rfl (Nat.le_of_ble_eq_true rfl) (fun σ16 e16 => ?_)
        replace e16 := e16.symm
        subst e16
        refine x_ifneB (tgt := 47) (pc' := 30) hE dX3_fastsOn_27 (by decide) rfl (fun h17 => ?_) (fun h17 => ?_)
        · try simp only [decide_eq_true_eq, decide_eq_false_iff_not] at h17
          refine x_iconst (pc' := 48) hE dX3_fastsOn_47 rfl ?_
          refine x_goto (tgt := 52) hE dX3_fastsOn_48 (by decide) ?_
          refine x_zret hE dX3_fastsOn_52 (by rfl) ?_
          refine ⟨rb1 ?_, rfl⟩
          unfold fsR
          simp_all
        · try simp only [decide_eq_true_eq, decide_eq_false_iff_not] at h17
          refine x_aload_n (pc' := 31) hE dX3_fastsOn_30 rfl rfl ?_
          refine kg_4 (pc' := 34) (by omega) (by omega) hE hM tF_X3_54 dX3_fastsOn_31 rfl ?_
          refine x_ifeqB (tgt := 51) (pc' := 37) hE dX3_fastsOn_34 (by decide) rfl (fun h18 => ?_) (fun h18 => ?_)
          · try simp only [decide_eq_true_eq, decide_eq_false_iff_not] at h18
            refine x_iconst (pc' := 52) hE dX3_fastsOn_51 rfl ?_
            refine x_zret hE dX3_fastsOn_52 (by rfl) ?_
            refine ⟨rb0 ?_, rfl⟩
            unfold fsR
            simp_all
          · try simp only [decide_eq_true_eq, decide_eq_false_iff_not] at h18
            refine x_aload_n (pc' := 38) hE dX3_fastsOn_37 rfl rfl ?_
            refine x_iload_n (pc' := 39) hE dX3_fastsOn_38 rfl rfl ?_
            refine x_iconst (pc' := 40) hE dX3_fastsOn_39 rfl ?_
            refine x_iadd (pc' := 41) hE dX3_fastsOn_40 rfl ?_
            refine x_cV1 (pc' := 44) hE hM (okC G) hl hR (c_X1_isFeast l G _ _ (by assumption) _ (by omega) (by omega)) kX1_isFeast tM_X3_57 (rcv_X1 hM) (by decide) dX3_fastsOn_41 rfl rfl (Nat.le_of_ble_eq_true rfl) (fun σ19 e19 => ?_)
            replace e19 := e19.symm
            subst e19
            refine x_ifeqB (tgt := 51) (pc' := 47) hE dX3_fastsOn_44 (by decide) rfl (fun h20 => ?_) (fun h20 => ?_)
            · try simp only [decide_eq_true_eq, decide_eq_false_iff_not] at h20
              refine x_iconst (pc' := 52) hE dX3_fastsOn_51 rfl ?_
              refine x_zret hE dX3_fastsOn_52 (by rfl) ?_
              refine ⟨rb0 ?_, rfl⟩
              unfold fsR
              simp_all
            · try simp only [decide_eq_true_eq, decide_eq_false_iff_not] at h20
              refine x_iconst (pc' := 48) hE dX3_fastsOn_47 rfl ?_
              refine x_goto (tgt := 52) hE dX3_fastsOn_48 (by decide) ?_
              refine x_zret hE dX3_fastsOn_52 (by rfl) ?_
              refine ⟨rb1 ?_, rfl⟩
              unfold fsR
              simp_all
set_option maxHeartbeats 4000000 in
set_option maxRecDepth 10000 in
theorem c_X1_placeOfWeekday (l : Launch) (G : GC) (σ : St) (ys wd wh : Int) (h0 : -200 ≤ wd - ys) (h1 : wd - ys < 200) : Ct l (YC G) yX1_placeOfWeekday (.code yX1_placeOfWeekday cX1_placeOfWeekday 3 (some .int)) 1 [.int (iN ys), .int (iN wd), .int (iN wh)] σ (fun v σ' => v = some (.int (iN ((wd - ys) % 7 + 7 * (wh - 1)))) ∧ σ' = σ) := by
  refine Ct_of (own := RX1) [some (.int (iN ys)), some (.int (iN wd)), some (.int (iN wh))] rfl rfl (Nat.le_of_ble_eq_true rfl) rfl ?_
  intro E hE hM hl hR
  refine x_iload_n (pc' := 1) hE dX1_placeOfWeekday_0 rfl rfl ?_
  refine x_iload_n (pc' := 2) hE dX1_placeOfWeekday_1 rfl rfl ?_
  refine x_isub (pc' := 3) hE dX1_placeOfWeekday_2 rfl ?_
  refine x_bipush (pc' := 5) hE dX1_placeOfWeekday_3 rfl (by decide +kernel) ?_
  refine x_cS1 (pc' := 8) hE hM (okC G) hl hR (c_J9_floorMod_7cf53 l G _ _ (by omega) (by omega)) kJ9_floorMod_7cf53 tM_X1_36 (by decide) dX1_placeOfWeekday_5 rfl rfl (Nat.le_of_ble_eq_true rfl) (fun σ1 e1 => ?_)
  replace e1 := e1.symm
  subst e1
  refine x_bipush (pc' := 10) hE dX1_placeOfWeekday_8 rfl (by decide +kernel) ?_
  refine x_iload_n (pc' := 11) hE dX1_placeOfWeekday_10 rfl rfl ?_
  refine x_iconst (pc' := 12) hE dX1_placeOfWeekday_11 rfl ?_
  refine x_isub (pc' := 13) hE dX1_placeOfWeekday_12 rfl ?_
  refine x_imul (pc' := 14) hE dX1_placeOfWeekday_13 rfl ?_
  refine x_iadd (pc' := 15) hE dX1_placeOfWeekday_14 rfl ?_
  refine x_iret hE dX1_placeOfWeekday_15 ?_
  exact ⟨rfl, rfl⟩
set_option maxHeartbeats 4000000 in
set_option maxRecDepth 10000 in
theorem c_X0_next (l : Launch) (G : GC) (σ : St) (h0 : 0 ≤ σ 5 0 0 0) (h1 : σ 5 0 0 0 < 2147483648) : Ct l (YC G) yX0_next (.code yX0_next cX0_next 1 (some .int)) 0 [.ref (aC G 5 0 0)] σ (fun v σ' => v = some (.int (iN (sdN (σ 5 0 0 0) / 65536))) ∧ σ' = up σ 5 0 0 0 (sdN (σ 5 0 0 0))) := by
  refine Ct_of (own := RX0) [some (.ref (aC G 5 0 0))] rfl rfl (Nat.le_of_ble_eq_true rfl) rfl ?_
  intro E hE hM hl hR
  have hb := sdN_bd (σ 5 0 0 0)
  have hs : σ 5 0 0 0 = σ 5 0 0 0 := rfl
  refine x_aload_n (pc' := 1) hE dX0_next_0 rfl rfl ?_
  refine x_ldc2 (pc' := 4) hE dX0_next_1 rfl tV_X0_7 ?_
  refine x_aload_n (pc' := 5) hE dX0_next_4 rfl rfl ?_
  refine g_X0_0 (pc' := 8) hE hM tF_X0_9 dX0_next_5 rfl ?_
  refine x_lmul (pc' := 9) hE dX0_next_8 rfl ?_
  refine x_ldc2 (pc' := 12) hE dX0_next_9 rfl tV_X0_15 ?_
  refine x_ladd (pc' := 13) hE dX0_next_12 rfl ?_
  refine x_ldc2 (pc' := 16) hE dX0_next_13 rfl tV_X0_17 ?_
  refine x_st (st' := [.long (lL 2147483648), .long (lL (1103515245 * σ 5 0 0 0 + 12345)), .ref (aC G 5 0 0)]) (by rw [show (1103515245 : Int64) = lL 1103515245 by decide +kernel, show (12345 : Int64) = lL 12345 by decide +kernel, show (2147483648 : Int64) = lL 2147483648 by decide +kernel, lL_mul, lL_add]) ?_
  refine x_lrem (pc' := 17) hE dX0_next_16 rfl (by omega) (by omega) (by omega) (by omega) ?_
  refine p_X0_0 (pc' := 20) hE hM tF_X0_9 dX0_next_17 rfl ?_
  refine x_aload_n (pc' := 21) hE dX0_next_20 rfl rfl ?_
  refine g_X0_0 (pc' := 24) hE hM tF_X0_9 dX0_next_21 rfl ?_
  rw [show up σ 5 0 0 0 ((1103515245 * σ 5 0 0 0 + 12345) % 2147483648) 5 0 0 0 = sdN (σ 5 0 0 0) from up_s _ _ _ _ _ _]
  refine x_ldc2 (pc' := 27) hE dX0_next_24 rfl tV_X0_19 ?_
  refine x_st (st' := [.long (lL 65536), .long (lL (sdN (σ 5 0 0 0)))]) (by rw [show (65536 : Int64) = lL 65536 by decide +kernel]) ?_
  refine x_ldiv (pc' := 28) hE dX0_next_27 rfl (by omega) (by omega) (by omega) (by omega) ?_
  refine x_l2i (pc' := 29) hE dX0_next_28 rfl ?_
  refine x_iret hE dX0_next_29 ?_
  exact ⟨rfl, rfl⟩
