section KR
variable {E : EV} {cc : ByteArray} {nL : Nat} {own : String} {ret : Option FieldType} {Q : State → Prop} {pc pc' tgt idx : Nat} {lv : List (Option Value)} {st : List Value} {σ : St} {G : GC}
theorem x_kget {i : Nat} {q : String × String × String × List Int32} {v : Int32} (hE : OK E cc nL own ret) (hM : Mem (YC G) E) (hi : i < 5) (hq : q ∈ KF) (hv : q.2.2.2.getD i 0 = v) (hw : Cond.fieldLink own idx q.1 q.2.1 q.2.2.1 ∈ TW) (hd : decode cc pc = .ok (.getfield idx, 3)) (hp : pc' = pc + 3) (k : VV E nL (AS (YC G)) Q (Rh (YC G) σ) pc' lv (.int v :: st)) : VV E nL (AS (YC G)) Q (Rh (YC G) σ) pc lv (.ref (G.2.2.2.1 i) :: st) := by
  obtain ⟨p, l0, e, R, s, m, args, below, meth, c, kc, ks⟩ := E
  obtain ⟨hx, hb, hml, hown, hts, hN, hlocks, hret, hkc, hks⟩ := id hE
  subst hp
  intro H locs ls hJ hS hlv
  subst hv
  exact va_getE (ad := G.2.2.2.1) hx hb hM.2.1 hi hS hown hq (hts _ hw) (fun _ h => h) hd (k H locs ls hJ hS hlv)
theorem x_kgetN {i : Nat} {q : String × String × String × List Int32} {v : Int32} {host : String} (hE : OK E cc nL own ret) (hM : Mem (YC G) E) (hi : i < 5) (hq : q ∈ KF) (hv : q.2.2.2.getD i 0 = v) (hw : ∀ U : State, NW U → va_Nw (.fieldLinkNest own idx q.1 q.2.1 q.2.2.1 host) U) (hd : decode cc pc = .ok (.getfield idx, 3)) (hp : pc' = pc + 3) (k : VV E nL (AS (YC G)) Q (Rh (YC G) σ) pc' lv (.int v :: st)) : VV E nL (AS (YC G)) Q (Rh (YC G) σ) pc lv (.ref (G.2.2.2.1 i) :: st) := by
  obtain ⟨p, l0, e, R, s, m, args, below, meth, c, kc, ks⟩ := E
  obtain ⟨hx, hb, hml, hown, hts, hN, hlocks, hret, hkc, hks⟩ := id hE
  subst hp
  intro H locs ls hJ hS hlv
  subst hv
  obtain ⟨cf, k0, fi, f, cell, h1, h2, h3, h4, h5, h6⟩ := ((hM.2.1.1 i hi).2.2 q hq).kept hS.2.1
  exact va_Wgetf hx hb hown (va_Nw.use rfl (hw s hN)) h1 h2 h3 h4 (v := .int (q.2.2.2.getD i 0)) h5 rfl rfl hd (k H locs ls hJ hS hlv)
theorem five {P : Int → Prop} {z : Int} (h0 : 0 ≤ z) (h1 : z < 5) (a0 : P 0) (a1 : P 1) (a2 : P 2) (a3 : P 3) (a4 : P 4) : P z := by
  rcases (show z = 0 ∨ z = 1 ∨ z = 2 ∨ z = 3 ∨ z = 4 by omega) with rfl | rfl | rfl | rfl | rfl
  · exact a0
  · exact a1
  · exact a2
  · exact a3
  · exact a4
theorem kg_0 {z : Int} (h0 : 0 ≤ z) (h1 : z < 5) (hE : OK E cc nL own ret) (hM : Mem (YC G) E) (hw : ∀ U : State, NW U → va_Nw (.fieldLinkNest own idx "WolfCalendar$Kind" "number" "I" "WolfCalendar") U) (hd : decode cc pc = .ok (.getfield idx, 3)) (hp : pc' = pc + 3) (k : VV E nL (AS (YC G)) Q (Rh (YC G) σ) pc' lv (.int (iN z) :: st)) : VV E nL (AS (YC G)) Q (Rh (YC G) σ) pc lv (.ref (eC G z) :: st) := by
  revert k
  refine five (P := fun z => VV E nL (AS (YC G)) Q (Rh (YC G) σ) pc' lv (.int (iN z) :: st) → VV E nL (AS (YC G)) Q (Rh (YC G) σ) pc lv (.ref (eC G z) :: st)) h0 h1 ?_ ?_ ?_ ?_ ?_
  · exact fun k => x_kgetN (i := 0) hE hM (by decide) (List.mem_of_getElem? (i := 0) rfl) (by decide +kernel) hw hd hp k
  · exact fun k => x_kgetN (i := 1) hE hM (by decide) (List.mem_of_getElem? (i := 0) rfl) (by decide +kernel) hw hd hp k
  · exact fun k => x_kgetN (i := 2) hE hM (by decide) (List.mem_of_getElem? (i := 0) rfl) (by decide +kernel) hw hd hp k
  · exact fun k => x_kgetN (i := 3) hE hM (by decide) (List.mem_of_getElem? (i := 0) rfl) (by decide +kernel) hw hd hp k
  · exact fun k => x_kgetN (i := 4) hE hM (by decide) (List.mem_of_getElem? (i := 0) rfl) (by decide +kernel) hw hd hp k
theorem kg_1 {z : Int} (h0 : 0 ≤ z) (h1 : z < 5) (hE : OK E cc nL own ret) (hM : Mem (YC G) E) (hw : Cond.fieldLink own idx "WolfCalendar$Kind" "keepsFridays" "Z" ∈ TW) (hd : decode cc pc = .ok (.getfield idx, 3)) (hp : pc' = pc + 3) (k : VV E nL (AS (YC G)) Q (Rh (YC G) σ) pc' lv (.int (bI (decide (z ≠ 2))) :: st)) : VV E nL (AS (YC G)) Q (Rh (YC G) σ) pc lv (.ref (eC G z) :: st) := by
  revert k
  refine five (P := fun z => VV E nL (AS (YC G)) Q (Rh (YC G) σ) pc' lv (.int (bI (decide (z ≠ 2))) :: st) → VV E nL (AS (YC G)) Q (Rh (YC G) σ) pc lv (.ref (eC G z) :: st)) h0 h1 ?_ ?_ ?_ ?_ ?_
  · exact fun k => x_kget (i := 0) hE hM (by decide) (List.mem_of_getElem? (i := 1) rfl) (by decide +kernel) hw hd hp k
  · exact fun k => x_kget (i := 1) hE hM (by decide) (List.mem_of_getElem? (i := 1) rfl) (by decide +kernel) hw hd hp k
  · exact fun k => x_kget (i := 2) hE hM (by decide) (List.mem_of_getElem? (i := 1) rfl) (by decide +kernel) hw hd hp k
  · exact fun k => x_kget (i := 3) hE hM (by decide) (List.mem_of_getElem? (i := 1) rfl) (by decide +kernel) hw hd hp k
  · exact fun k => x_kget (i := 4) hE hM (by decide) (List.mem_of_getElem? (i := 1) rfl) (by decide +kernel) hw hd hp k
theorem kg_2 {z : Int} (h0 : 0 ≤ z) (h1 : z < 5) (hE : OK E cc nL own ret) (hM : Mem (YC G) E) (hw : Cond.fieldLink own idx "WolfCalendar$Kind" "keepsFeasts" "Z" ∈ TW) (hd : decode cc pc = .ok (.getfield idx, 3)) (hp : pc' = pc + 3) (k : VV E nL (AS (YC G)) Q (Rh (YC G) σ) pc' lv (.int (bI (decide (z ≠ 1))) :: st)) : VV E nL (AS (YC G)) Q (Rh (YC G) σ) pc lv (.ref (eC G z) :: st) := by
  revert k
  refine five (P := fun z => VV E nL (AS (YC G)) Q (Rh (YC G) σ) pc' lv (.int (bI (decide (z ≠ 1))) :: st) → VV E nL (AS (YC G)) Q (Rh (YC G) σ) pc lv (.ref (eC G z) :: st)) h0 h1 ?_ ?_ ?_ ?_ ?_
  · exact fun k => x_kget (i := 0) hE hM (by decide) (List.mem_of_getElem? (i := 2) rfl) (by decide +kernel) hw hd hp k
  · exact fun k => x_kget (i := 1) hE hM (by decide) (List.mem_of_getElem? (i := 2) rfl) (by decide +kernel) hw hd hp k
  · exact fun k => x_kget (i := 2) hE hM (by decide) (List.mem_of_getElem? (i := 2) rfl) (by decide +kernel) hw hd hp k
  · exact fun k => x_kget (i := 3) hE hM (by decide) (List.mem_of_getElem? (i := 2) rfl) (by decide +kernel) hw hd hp k
  · exact fun k => x_kget (i := 4) hE hM (by decide) (List.mem_of_getElem? (i := 2) rfl) (by decide +kernel) hw hd hp k
theorem kg_3 {z : Int} (h0 : 0 ≤ z) (h1 : z < 5) (hE : OK E cc nL own ret) (hM : Mem (YC G) E) (hw : Cond.fieldLink own idx "WolfCalendar$Kind" "lagsBehind" "Z" ∈ TW) (hd : decode cc pc = .ok (.getfield idx, 3)) (hp : pc' = pc + 3) (k : VV E nL (AS (YC G)) Q (Rh (YC G) σ) pc' lv (.int (bI (decide (z = 3 ∨ z = 4))) :: st)) : VV E nL (AS (YC G)) Q (Rh (YC G) σ) pc lv (.ref (eC G z) :: st) := by
  revert k
  refine five (P := fun z => VV E nL (AS (YC G)) Q (Rh (YC G) σ) pc' lv (.int (bI (decide (z = 3 ∨ z = 4))) :: st) → VV E nL (AS (YC G)) Q (Rh (YC G) σ) pc lv (.ref (eC G z) :: st)) h0 h1 ?_ ?_ ?_ ?_ ?_
  · exact fun k => x_kget (i := 0) hE hM (by decide) (List.mem_of_getElem? (i := 3) rfl) (by decide +kernel) hw hd hp k
  · exact fun k => x_kget (i := 1) hE hM (by decide) (List.mem_of_getElem? (i := 3) rfl) (by decide +kernel) hw hd hp k
  · exact fun k => x_kget (i := 2) hE hM (by decide) (List.mem_of_getElem? (i := 3) rfl) (by decide +kernel) hw hd hp k
  · exact fun k => x_kget (i := 3) hE hM (by decide) (List.mem_of_getElem? (i := 3) rfl) (by decide +kernel) hw hd hp k
  · exact fun k => x_kget (i := 4) hE hM (by decide) (List.mem_of_getElem? (i := 3) rfl) (by decide +kernel) hw hd hp k
theorem kg_4 {z : Int} (h0 : 0 ≤ z) (h1 : z < 5) (hE : OK E cc nL own ret) (hM : Mem (YC G) E) (hw : Cond.fieldLink own idx "WolfCalendar$Kind" "looksAhead" "Z" ∈ TW) (hd : decode cc pc = .ok (.getfield idx, 3)) (hp : pc' = pc + 3) (k : VV E nL (AS (YC G)) Q (Rh (YC G) σ) pc' lv (.int (bI (decide (z = 4))) :: st)) : VV E nL (AS (YC G)) Q (Rh (YC G) σ) pc lv (.ref (eC G z) :: st) := by
  revert k
  refine five (P := fun z => VV E nL (AS (YC G)) Q (Rh (YC G) σ) pc' lv (.int (bI (decide (z = 4))) :: st) → VV E nL (AS (YC G)) Q (Rh (YC G) σ) pc lv (.ref (eC G z) :: st)) h0 h1 ?_ ?_ ?_ ?_ ?_
  · exact fun k => x_kget (i := 0) hE hM (by decide) (List.mem_of_getElem? (i := 4) rfl) (by decide +kernel) hw hd hp k
  · exact fun k => x_kget (i := 1) hE hM (by decide) (List.mem_of_getElem? (i := 4) rfl) (by decide +kernel) hw hd hp k
  · exact fun k => x_kget (i := 2) hE hM (by decide) (List.mem_of_getElem? (i := 4) rfl) (by decide +kernel) hw hd hp k
  · exact fun k => x_kget (i := 3) hE hM (by decide) (List.mem_of_getElem? (i := 4) rfl) (by decide +kernel) hw hd hp k
  · exact fun k => x_kget (i := 4) hE hM (by decide) (List.mem_of_getElem? (i := 4) rfl) (by decide +kernel) hw hd hp k
theorem rcvK {E : EV} {z : Int} (h0 : 0 ≤ z) (h1 : z < 5) (hM : Mem (YC G) E) : Recv (YC G) E σ (eC G z) RX3 := by
  obtain ⟨p, l0, e, R, s, m, args, below, meth, c, kc, ks⟩ := E
  intro H locs hR hS
  exact va_recvE (i := z.toNat) hM.2.1 (show z.toNat < 5 by omega) hS
theorem x_sget {i : Nat} {nm : String} (hE : OK E cc nL own ret) (hM : Mem (YC G) E) (hi : i < 5) (hn : KN.getD i "" = nm) (hw : Cond.fieldLink own idx "WolfCalendar$Kind" nm "LWolfCalendar$Kind;" ∈ TW) (hd : decode cc pc = .ok (.getstatic idx, 3)) (hp : pc' = pc + 3) (k : VV E nL (AS (YC G)) Q (Rh (YC G) σ) pc' lv (.ref (eC G (i : Int)) :: st)) : VV E nL (AS (YC G)) Q (Rh (YC G) σ) pc lv st := by
  obtain ⟨p, l0, e, R, s, m, args, below, meth, c, kc, ks⟩ := E
  obtain ⟨hx, hb, hml, hown, hts, hN, hlocks, hret, hkc, hks⟩ := id hE
  subst hp
  intro H locs ls hJ hS hlv
  subst hn
  exact va_gets hx hb (hM.2.1.1 i hi).1 hS hown (hts _ hw) (fun _ h => h) hd (k H locs ls hJ hS hlv)
theorem x_kinds (hE : OK E cc nL own ret) (hM : Mem (YC G) E) (hw : Cond.fieldLink own idx "WolfCalendar" "KINDS" "[LWolfCalendar$Kind;" ∈ TW) (hd : decode cc pc = .ok (.getstatic idx, 3)) (hp : pc' = pc + 3) (k : VV E nL (AS (YC G)) Q (Rh (YC G) σ) pc' lv (.ref (tC G) :: st)) : VV E nL (AS (YC G)) Q (Rh (YC G) σ) pc lv st := by
  obtain ⟨p, l0, e, R, s, m, args, below, meth, c, kc, ks⟩ := E
  obtain ⟨hx, hb, hml, hown, hts, hN, hlocks, hret, hkc, hks⟩ := id hE
  subst hp
  intro H locs ls hJ hS hlv
  exact va_gets hx hb hM.2.2.1 hS hown (hts _ hw) (fun _ h => h) hd (k H locs ls hJ hS hlv)
theorem x_kald {z : Int} (hE : OK E cc nL own ret) (hM : Mem (YC G) E) (h0 : 0 ≤ z) (h1 : z < 5) (hd : decode cc pc = .ok (.aaload, 1)) (hp : pc' = pc + 1) (k : VV E nL (AS (YC G)) Q (Rh (YC G) σ) pc' lv (.ref (eC G z) :: st)) : VV E nL (AS (YC G)) Q (Rh (YC G) σ) pc lv (.int (iN z) :: .ref (tC G) :: st) := by
  obtain ⟨p, l0, e, R, s, m, args, below, meth, c, kc, ks⟩ := E
  obtain ⟨hx, hb, hml, hown, hts, hN, hlocks, hret, hkc, hks⟩ := id hE
  subst hp
  intro H locs ls hJ hS hlv
  refine vb_tq hx hb hM.2.2.2 hS (iN_vin (n := 5) h0 (by omega) (by decide)) (v := .ref (eC G z)) ?_ hd (k H locs ls hJ hS hlv)
  show Value.ref (eC G (((iN z).toNatClampNeg : Nat) : Int)) = _
  rw [iN_nat z h0 (by omega), Int.toNat_of_nonneg h0]
theorem x_klen (hE : OK E cc nL own ret) (hM : Mem (YC G) E) (hd : decode cc pc = .ok (.arraylength, 1)) (hp : pc' = pc + 1) (k : VV E nL (AS (YC G)) Q (Rh (YC G) σ) pc' lv (.int (iN 5) :: st)) : VV E nL (AS (YC G)) Q (Rh (YC G) σ) pc lv (.ref (tC G) :: st) := by
  obtain ⟨p, l0, e, R, s, m, args, below, meth, c, kc, ks⟩ := E
  obtain ⟨hx, hb, hml, hown, hts, hN, hlocks, hret, hkc, hks⟩ := id hE
  subst hp
  intro H locs ls hJ hS hlv
  exact va_tlen hx hb hM.2.2.2 hS (v := iN 5) (by decide +kernel) hd (k H locs ls hJ hS hlv)
theorem eC_inj {E : EV} {a b : Int} (hM : Mem (YC G) E) (ha : 0 ≤ a) (ha1 : a < 5) (hb : 0 ≤ b) (hb1 : b < 5) (h : eC G a = eC G b) : a = b := by
  obtain ⟨p, l0, e, R, s, m, args, below, meth, c, kc, ks⟩ := E
  have := hM.2.1.2 a.toNat b.toNat (show a.toNat < 5 by omega) (show b.toNat < 5 by omega) h
  omega
theorem x_acmpeqK {a b : Int} {off : Int} (ha : 0 ≤ a) (ha1 : a < 5) (hb : 0 ≤ b) (hb1 : b < 5) (hE : OK E cc nL own ret) (hM : Mem (YC G) E) (hd : decode cc pc = .ok (.if_acmp .eq off, 3)) (ht : (pc : Int) + off = (tgt : Int)) (hp : pc' = pc + 3) (kt : a = b → VV E nL (AS (YC G)) Q (Rh (YC G) σ) tgt lv st) (kf : ¬ a = b → VV E nL (AS (YC G)) Q (Rh (YC G) σ) pc' lv st) : VV E nL (AS (YC G)) Q (Rh (YC G) σ) pc lv (.ref (eC G b) :: .ref (eC G a) :: st) := by
  have hi := fun h => eC_inj hM ha ha1 hb hb1 h
  obtain ⟨p, l0, e, R, s, m, args, below, meth, c, kc, ks⟩ := E
  obtain ⟨hx, hbb, hml, hown, hts, hN, hlocks, hret, hkc, hks⟩ := id hE
  subst hp
  intro H locs ls hJ hS hlv
  exact lv_acmp_eq (rx := some (eC G a)) (ry := some (eC G b)) hx hbb hd ht (fun h => kt (hi (Option.some.inj h)) H locs ls hJ hS hlv) (fun h => kf (fun q => h (by rw [q])) H locs ls hJ hS hlv)
theorem x_acmpneK {a b : Int} {off : Int} (ha : 0 ≤ a) (ha1 : a < 5) (hb : 0 ≤ b) (hb1 : b < 5) (hE : OK E cc nL own ret) (hM : Mem (YC G) E) (hd : decode cc pc = .ok (.if_acmp .ne off, 3)) (ht : (pc : Int) + off = (tgt : Int)) (hp : pc' = pc + 3) (kt : ¬ a = b → VV E nL (AS (YC G)) Q (Rh (YC G) σ) tgt lv st) (kf : a = b → VV E nL (AS (YC G)) Q (Rh (YC G) σ) pc' lv st) : VV E nL (AS (YC G)) Q (Rh (YC G) σ) pc lv (.ref (eC G b) :: .ref (eC G a) :: st) := by
  have hi := fun h => eC_inj hM ha ha1 hb hb1 h
  obtain ⟨p, l0, e, R, s, m, args, below, meth, c, kc, ks⟩ := E
  obtain ⟨hx, hbb, hml, hown, hts, hN, hlocks, hret, hkc, hks⟩ := id hE
  subst hp
  intro H locs ls hJ hS hlv
  exact lv_acmp_ne (rx := some (eC G a)) (ry := some (eC G b)) hx hbb hd ht (fun h => kt (fun q => h (by rw [q])) H locs ls hJ hS hlv) (fun h => kf (hi (Option.some.inj h)) H locs ls hJ hS hlv)
/-- what is FORGED, copied whole -/
def cpF (σ : St) (w w' : Nat) : St := fun a b c d => if a = 9 ∧ b = w ∧ c = 0 ∧ 0 ≤ d ∧ d < 8 then σ 9 w' 0 d else σ a b c d
theorem x_acopy {w w' : Nat} (hv : w < 3) (hv' : w' < 3) (hE : OK E cc nL own ret) (hM : Mem (YC G) E) {d : Nat} (hR : ER E = rmD d) (hd1 : 1 ≤ d) (hw : Cond.methodLink own idx arraycopyName ∈ TW) (hd : decode cc pc = .ok (.invokestatic idx, 3)) (hp : pc' = pc + 3) (k : VV E nL (AS (YC G)) Q (Rh (YC G) (cpF σ w w')) pc' lv []) : VV E nL (AS (YC G)) Q (Rh (YC G) σ) pc lv [.int (iN 8), .int (iN 0), .ref (aC G 9 w 0), .int (iN 0), .ref (aC G 9 w' 0)] := by
  obtain ⟨p, l0, e, R, s, m, args, below, meth, c, kc, ks⟩ := E
  obtain ⟨hx, hb, hml, hown, hts, hN, hlocks, hret, hkc, hks⟩ := id hE
  subst hp
  intro H locs ls hJ hS hlv
  have hR : R = rmD d := hR
  subst hR
  obtain ⟨k1, hk1, hk1'⟩ := ws_get (Y := YC G) (σ := σ) (q := (9, w, 0)) (idCw (by decide) (by decide) hv)
  obtain ⟨k2, hk2, hk2'⟩ := ws_get (Y := YC G) (σ := σ) (q := (9, w', 0)) (idCw (by decide) (by decide) hv')
  have z8 : (iN 8).toNatClampNeg = 8 := by decide +kernel
  have z0 : (iN 0).toNatClampNeg = 0 := by decide +kernel
  refine va_copyi (D := yD (YC G)) (tys := yT (YC G)) (ty := .int) (f := fun j : Nat => iN (σ 9 w' 0 j)) (g := fun j : Nat => iN (σ 9 w 0 j)) hx hb (hml.trans hlv.1.symm) hown (hts _ hw) (hts _ tA_acopy) (hts _ tS_acopy) (hts _ tN_J10) hM.1 hJ.1 hJ.2 hS k2 k1 0 0 (n0 := 8) (n1 := 8) hk2' hk1' rfl rfl rfl (by decide +kernel) (by decide +kernel) (by decide +kernel) (by rw [z8, z0]; decide) (by rw [z8, z0]; decide) (fun _ _ => rfl) (by show 1 ≤ d; exact hd1) (by show 0 + (nativeFrameWords "java/lang/System" "arraycopy" 5 + 11) ≤ 41 * d + 41; have hw9 : nativeFrameWords "java/lang/System" "arraycopy" 5 + 11 ≤ 41 := (by decide +kernel); omega) hd (fun H1 locs1 hP hD hS1 => ?_)
  have e0 : (fun j : Nat => iN (cpF σ w w' 9 w 0 j)) = va_cpy (fun j : Nat => iN (σ 9 w' 0 j)) (fun j : Nat => iN (σ 9 w 0 j)) (iN 0).toNatClampNeg (iN 0).toNatClampNeg (iN 8).toNatClampNeg := by
    rw [z8, z0]
    funext j
    by_cases h : j < 8
    · have hj : (j : Int) < 8 := by omega
      simp [cpF, va_cpy, h, hj]
    · have hj : ¬ (j : Int) < 8 := by omega
      simp [cpF, va_cpy, h, hj]
  have e1 := ws_set (Y := YC G) (σ' := cpF σ w w') (q := (9, w, 0)) (e := .inl (G.2.2.1.1, 8, .inl (va_cpy (fun j : Nat => iN (σ 9 w' 0 j)) (fun j : Nat => iN (σ 9 w 0 j)) (iN 0).toNatClampNeg (iN 0).toNatClampNeg (iN 8).toNatClampNeg))) hJ.2 hk1 (by rw [← e0]; rfl) (fun r hr => by
    funext dd
    obtain ⟨a, b, c9⟩ := r
    show (if _ then _ else _) = _
    rw [if_neg]
    rintro ⟨h1, h2, h3, -⟩
    subst h1; subst h2; subst h3
    exact hr rfl)
  have hP1 : va_P (yD (YC G)) vwCl (wsY (YC G) (cpF σ w w')) H1 := by rw [← e1]; exact hP
  have hD1 : va_D (AS (YC G)) (wsY (YC G) (cpF σ w w')) := by rw [← e1]; exact hD
  exact k H1 locs1 ls ⟨hP1, hD1⟩ hS1 hlv
end KR
