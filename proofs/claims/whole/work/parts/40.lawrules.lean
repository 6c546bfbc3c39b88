/-! the start, and the rules of the law's walk -/
theorem σM_0 (k : Nat) (j : Int) (h : k ≠ 0) : σ0M k 0 0 j = 0 := by simp [σ0M, h]
theorem fv_0 (d : Int) : fv σ0M d = false := rfl
theorem RC_0 : RC σ0C σ0M := by
  refine ⟨⟨rfl, fun k _ _ => rfl⟩, ⟨rfl, ⟨fun d _ _ => by rw [fv_0]; rfl, fun d _ => by rw [fv_0, fv_0]⟩⟩, ⟨rfl, rfl, rfl, by decide +kernel, fun p p0 p1 => ?_, fun f f0 f1 => ?_, fun c _ _ => rfl⟩, ⟨by decide +kernel, by decide +kernel, by decide +kernel, by decide +kernel⟩, rfl, fun h => absurd h (by decide +kernel), rfl, rfl⟩
  · have : wv σ0M 0 0 = 0 := rfl
    omega
  · have : wv σ0M 0 1 = 0 := rfl
    omega
theorem IM_0 : IM 0 σ0M := by
  have e3 : σ0M 0 0 0 3 = 0 := by decide +kernel
  have e0 : σ0M 0 0 0 0 = 0 := by decide +kernel
  have e1 : σ0M 0 0 0 1 = 0 := by decide +kernel
  have e5 : σ0M 0 0 0 5 = 0 := by decide +kernel
  have e9 : σ0M 0 0 0 9 = 0 := by decide +kernel
  have e13 : σ0M 0 0 0 13 = -1 := by decide +kernel
  have e14 : σ0M 0 0 0 14 = 0 := by decide +kernel
  have e15 : σ0M 0 0 0 15 = 0 := by decide +kernel
  have e17 : σ0M 0 0 0 17 = 0 := by decide +kernel
  have e18 : σ0M 0 0 0 18 = 0 := by decide +kernel
  have e30 : σ0M 0 0 0 30 = 0 := by decide +kernel
  have w00 : wv σ0M 0 0 = 0 := by decide +kernel
  have w01 : wv σ0M 0 1 = 0 := by decide +kernel
  have w02 : wv σ0M 0 2 = 0 := by decide +kernel
  have w : ∀ (r : Nat) (i : Int), 1 ≤ r → r ≤ 7 → wv σ0M r i = 0 := by
    intro r i h1 h2
    unfold wv
    rw [if_neg (by omega)]
    split
    · exact σM_0 2 i (by omega)
    · rw [if_pos (by omega)]
      exact σM_0 (r + 2) i (by omega)
  have z : ∀ (k : Nat) (j : Int), k ≠ 0 → σ0M k 0 0 j = 0 := σM_0
  refine ⟨⟨by omega, by omega, by omega, fun p _ _ => ?_, fun f _ _ => ?_, fun c _ _ => ?_⟩, ⟨by omega, fun k k0 k1 => by omega⟩, by omega, by omega, by omega, fun k _ _ => ?_, by omega, by omega, by omega, fun j _ _ => ?_, fun f _ _ => ?_, by omega, fun h => by omega⟩
  · rw [w 1 p (by omega) (by omega), w 2 p (by omega) (by omega), w 3 p (by omega) (by omega)]; omega
  · rw [w 4 f (by omega) (by omega), w 5 f (by omega) (by omega), w 6 f (by omega) (by omega)]; omega
  · rw [w 7 c (by omega) (by omega)]; omega
  · rw [z 10 k (by omega)]; omega
  · rw [z 9 j (by omega)]; omega
  · rw [z 7 f (by omega)]; omega
def XW (b L : Nat) (xs : Nat → Int32) (A : Nat → Prop) (E : EV) : Prop := match E with
  | (_, _, _, _, s, _, _, _, _, _, _, _) => va_X b L xs s s.heap ∧ b < s.heap.size ∧ ¬ A b ∧ ∀ q, A q → s.heap.size ≤ q
def LH (G : GC) (G' : GM) (b L : Nat) (xs : Nat → Int32) (A : Nat → Prop) (l : Launch) (E : EV) : Prop := OK E code 4 RL ret ∧ Mem (YC G) E ∧ Mem (YM G') E ∧ EL E = l ∧ ER E = room_1 ∧ XW b L xs A E ∧ (∀ q, AS (YC G) q → A q) ∧ (∀ q, AS (YM G') q → A q) ∧ (∀ q, AS (YM G') q → ¬ AS (YC G) q) ∧ L ≤ 256
def JJ (G : GC) (G' : GM) (σ τ : St) : Heap → Prop := fun H => Rh (YC G) σ H ∧ Rh (YM G') τ H
def lvq (b : Nat) (G : GC) (G' : GM) (j : Int) : List (Option Value) := [some (.ref b), some (.ref (aC G 0 0 0)), some (.ref (aM G' 0)), some (.int (iN j))]
/-- a script's place -/
def xz (xs : Nat → Int32) (z : Int) : Int := (xs z.toNat).toInt
theorem xz_in (xs : Nat → Int32) (z : Int) : inR (xz xs z) := inR_of _
section LWR
variable {E : EV} {cc : ByteArray} {nL : Nat} {own : String} {rt0 : Option FieldType} {A : Nat → Prop} {Q : State → Prop} {J : Heap → Prop} {pc pc' tgt idx b L : Nat} {xs : Nat → Int32} {lv : List (Option Value)} {st stk : List Value} {l : Launch}
theorem w_fact {J' : Heap → Prop} {P : Prop} (h : ∀ H, J H → P ∧ J' H) (k : P → VV E nL A Q J' pc lv st) : VV E nL A Q J pc lv st := by
  obtain ⟨p, l0, e, R, s, m, args, below, meth, c, kc, ks⟩ := E
  intro H locs ls hJ hS hlv
  exact k (h H hJ).1 H locs ls (h H hJ).2 hS hlv
theorem w_slen (hE : OK E cc nL own rt0) (hX : XW b L xs A E) (hd : decode cc pc = .ok (.arraylength, 1)) (hp : pc' = pc + 1) (k : VV E nL A Q J pc' lv (.int (iN (L : Int)) :: st)) : VV E nL A Q J pc lv (.ref b :: st) := by
  obtain ⟨p, l0, e, R, s, m, args, below, meth, c, kc, ks⟩ := E
  obtain ⟨hx, hb, hml, hown, hts, hN, hlocks, hret, hkc, hks⟩ := id hE
  subst hp
  intro H locs ls hJ hS hlv
  refine va_slen hx hb hX.1 hX.2.1 hX.2.2.1 hS hd ?_
  rw [iN_ofNat]
  exact k H locs ls hJ hS hlv
theorem w_sld {z : Int} (hE : OK E cc nL own rt0) (hX : XW b L xs A E) (h0 : 0 ≤ z) (h1 : z < (L : Int)) (hL : L ≤ 256) (hd : decode cc pc = .ok (.iaload, 1)) (hp : pc' = pc + 1) (k : VV E nL A Q J pc' lv (.int (iN (xz xs z)) :: st)) : VV E nL A Q J pc lv (.int (iN z) :: .ref b :: st) := by
  obtain ⟨p, l0, e, R, s, m, args, below, meth, c, kc, ks⟩ := E
  obtain ⟨hx, hb, hml, hown, hts, hN, hlocks, hret, hkc, hks⟩ := id hE
  subst hp
  intro H locs ls hJ hS hlv
  refine va_sld hx hb hX.1 hX.2.1 hX.2.2.1 hS (iN_vin h0 h1 (by omega)) hd ?_
  rw [iN_nat z h0 (by omega)]
  have hk := k H locs ls hJ hS hlv
  unfold xz at hk
  rw [iN_asI] at hk
  exact hk
theorem w_eq {x : Int32} {off : Int} (hE : OK E cc nL own rt0) (hd : decode cc pc = .ok (.if_icmp .eq off, 3)) (ht : (pc : Int) + off = (tgt : Int)) (k : VV E nL A Q J tgt lv st) : VV E nL A Q J pc lv (.int x :: .int x :: st) := by
  obtain ⟨p, l0, e, R, s, m, args, below, meth, c, kc, ks⟩ := E
  obtain ⟨hx, hb, hml, hown, hts, hN, hlocks, hret, hkc, hks⟩ := id hE
  intro H locs ls hJ hS hlv
  exact lv_icmp_eq hx hb hd ht (fun _ => k H locs ls hJ hS hlv) (fun h => absurd rfl h)
theorem w_leq {x : Int64} (hE : OK E cc nL own rt0) (hd : decode cc pc = .ok (.lcmp, 1)) (hp : pc' = pc + 1) (k : VV E nL A Q J pc' lv (.int (iN 0) :: st)) : VV E nL A Q J pc lv (.long x :: .long x :: st) := by
  obtain ⟨p, l0, e, R, s, m, args, below, meth, c, kc, ks⟩ := E
  obtain ⟨hx, hb, hml, hown, hts, hN, hlocks, hret, hkc, hks⟩ := id hE
  subst hp
  intro H locs ls hJ hS hlv
  refine W.lcmp hx hb hd ?_
  rw [show lg_cmp x x = 0 by simp [lg_cmp], iN_0]
  exact k H locs ls hJ hS hlv
theorem w_call {Y Z : SY} {σ ρ : St} {q : Nat × Nat × Int} {ci : Nat} {fs : List Value} {r : vw_C} {y : MethodName} {bytes : ByteArray} {maxL d' : Nat} {rt : Option FieldType} {As : List Value} {x : Value} {P : St → Prop} {C : String} (hE : OK E cc nL own rt0) (hMY : Mem Y E) (hY : YOk Y) (hl : EL E = l) (hR : ER E = room_1) (hAs : ∀ z, AS Y z → A z) (hA : ∀ z, A z → (match E with | (_, _, _, _, s, _, _, _, _, _, _, _) => s.heap.size ≤ z)) (hdis : ∀ z, AS Z z → ¬ AS Y z)
    (hC : Ct l Y y (.code y bytes maxL rt) d' (.ref (yA Y q.1 q.2.1 q.2.2) :: As) σ (fun v σ' => v = some x ∧ P σ')) (hcal : Callee y C bytes maxL rt As.length) (hlink : Cond.methodLink own idx y ∈ TW) (hq : q ∈ yI Y) (hc : yC Y q.1 q.2.1 q.2.2 (σ q.1 q.2.1 q.2.2) = .inr (ci, fs)) (hcl : vwCl[ci]? = some r) (hrC : r.1 = C) (hdep : d' ≤ 100) (hd : decode cc pc = .ok (.invokevirtual idx, 3)) (hp : pc' = pc + 3) (hstk : stk = As.reverse ++ .ref (yA Y q.1 q.2.1 q.2.2) :: st) (hcat : (st.map fun v => v.category).sum ≤ 8)
    (k : ∀ σ' : St, P σ' → VV E nL A Q (fun H => Rh Y σ' H ∧ Rh Z ρ H) pc' lv (x :: st)) : VV E nL A Q (fun H => Rh Y σ H ∧ Rh Z ρ H) pc lv stk := by
  obtain ⟨p, l0, e, R, s, m, args, below, meth, c, kc, ks⟩ := E
  obtain ⟨hx, hb, hml, hown, hts, hN, hlocks, hret, hkc, hks⟩ := id hE
  obtain ⟨h1, h2, h3, h4, h5, h6, h7⟩ := hcal
  have hl : l0 = l := hl
  have hR : R = room_1 := hR
  subst hl; subst hR; subst hp; subst hstk; subst hrC
  intro H locs ls hJ hS hlv
  have hG : GoodIn TW (wsV own idx r.1 y (Cond.code y bytes maxL rt :: TW)) := by
    have a1 : ∀ w ∈ wsV own idx r.1 y (Cond.code y bytes maxL rt :: TW), w ∈ TW := by
      intro w hw
      simp only [wsV, List.cons_append, List.nil_append, List.mem_cons] at hw
      rcases hw with rfl | rfl | rfl | rfl | rfl | hw
      · exact hlink
      · exact h4
      · exact h5
      · exact h6
      · exact h7
      · exact hw
    exact TW_in a1 a1
  obtain ⟨kq, -, hk⟩ := ws_get (σ := σ) hq
  rw [hc] at hk
  have hrec := va_recv hMY.1 hJ.1.1 hcl hk
  exact run_go (va_runV (As := As) (rest := st) ⟨hx, hb, hml, hown, hts⟩ hC (cwV As.length hts hG rfl rfl rfl ⟨h1, h2⟩ ⟨by show d' + 1 ≤ 2048; omega, by show 8 + (maxL + 11) + (41 * d' + 41) ≤ 84000; omega⟩)
    ⟨blind_Rp hY _ _, hrec, pre_Rp (locs := locs) hY hMY.1 hMY.2 hN hJ.1 (fun z h1 h2 => hS.2.1 z h1 (fun h9 => by have := hA z h9; simp only at this; omega))⟩ rfl rfl hlv.1 rfl (by show 2 * 0 + _ ≤ 8; omega) hd ⟨hkc, hks⟩) hS hAs (fun v σ' H1 locs1 hp hR1 hz hk1 hS1 => by
      obtain ⟨rfl, hP⟩ := hp
      exact k σ' hP H1 locs1 ls ⟨hR1, ⟨hJ.2.1.kept (fun k0 x0 hx0 => hk1 _ ((hJ.2.1 k0 x0 hx0).lt) (hdis _ (hJ.2.2.2 k0 x0 hx0))), hJ.2.2⟩⟩ hS1 hlv)
variable {G : GC} {G' : GM} {σ τ : St}
theorem w_cC1 {y : MethodName} {bytes : ByteArray} {maxL d' : Nat} {rt : Option FieldType} {As : List Value} {x : Value} {P : St → Prop} (hL : LH G G' b L xs A l E) (hC : Ct l (YC G) y (.code y bytes maxL rt) d' (.ref (aC G 0 0 0) :: As) σ (fun v σ' => v = some x ∧ P σ')) (hcal : Callee y RX8 bytes maxL rt As.length) (hlink : Cond.methodLink RL idx y ∈ TW) (hdep : d' ≤ 100) (hd : decode code pc = .ok (.invokevirtual idx, 3)) (hp : pc' = pc + 3) (hstk : stk = As.reverse ++ .ref (aC G 0 0 0) :: st) (hcat : (st.map fun v => v.category).sum ≤ 8)
    (k : ∀ σ' : St, P σ' → VV E 4 A Q (JJ G G' σ' τ) pc' lv (x :: st)) : VV E 4 A Q (JJ G G' σ τ) pc lv stk := by
  obtain ⟨a1, a2, a3, a4, a5, a6, a7, a8, a9, a10⟩ := hL
  exact w_call (Y := YC G) (Z := YM G') (q := (0, 0, 0)) a1 a2 (okC G) a4 a5 a7 (by obtain ⟨p, l0, e, R, s, m, args, below, meth, c, kc, ks⟩ := E; exact a6.2.2.2) a9 hC hcal hlink (idC0 (by decide)) rfl rfl rfl hdep hd hp hstk hcat k
theorem w_cM1 {y : MethodName} {bytes : ByteArray} {maxL d' : Nat} {rt : Option FieldType} {As : List Value} {x : Value} {P : St → Prop} (hL : LH G G' b L xs A l E) (hC : Ct l (YM G') y (.code y bytes maxL rt) d' (.ref (aM G' 0) :: As) τ (fun v σ' => v = some x ∧ P σ')) (hcal : Callee y RX9 bytes maxL rt As.length) (hlink : Cond.methodLink RL idx y ∈ TW) (hdep : d' ≤ 100) (hd : decode code pc = .ok (.invokevirtual idx, 3)) (hp : pc' = pc + 3) (hstk : stk = As.reverse ++ .ref (aM G' 0) :: st) (hcat : (st.map fun v => v.category).sum ≤ 8)
    (k : ∀ τ' : St, P τ' → VV E 4 A Q (JJ G G' σ τ') pc' lv (x :: st)) : VV E 4 A Q (JJ G G' σ τ) pc lv stk := by
  obtain ⟨a1, a2, a3, a4, a5, a6, a7, a8, a9, a10⟩ := hL
  refine x_J (J' := fun H => Rh (YM G') τ H ∧ Rh (YC G) σ H) (fun H h => ⟨h.2, h.1⟩) ?_
  exact w_call (Y := YM G') (Z := YC G) (q := (0, 0, 0)) a1 a3 (okM G') a4 a5 a8 (by obtain ⟨p, l0, e, R, s, m, args, below, meth, c, kc, ks⟩ := E; exact a6.2.2.2) (fun z h1 h2 => a9 z h2 h1) hC hcal hlink (idM (by decide)) rfl rfl rfl hdep hd hp hstk hcat (fun τ' h => x_J (fun H h => ⟨h.2, h.1⟩) (k τ' h))
end LWR
