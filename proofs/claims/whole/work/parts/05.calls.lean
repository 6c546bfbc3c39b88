/-! a system: its cells by kind, world, number, each told by a row of whole numbers -/
abbrev SY : Type := va_G × List (ClassId × FieldType) × (Nat → Nat → Int → Nat) × List (Nat × Nat × Int) × (Nat → Nat → Int → (Int → Int) → va_E) × (State → Heap → Prop)
abbrev St : Type := Nat → Nat → Int → Int → Int
abbrev yD (Y : SY) : va_G := Y.1
abbrev yT (Y : SY) : List (ClassId × FieldType) := Y.2.1
abbrev yA (Y : SY) : Nat → Nat → Int → Nat := Y.2.2.1
abbrev yI (Y : SY) : List (Nat × Nat × Int) := Y.2.2.2.1
abbrev yC (Y : SY) : Nat → Nat → Int → (Int → Int) → va_E := Y.2.2.2.2.1
abbrev yS (Y : SY) : State → Heap → Prop := Y.2.2.2.2.2
def wsY (Y : SY) (σ : St) : va_W := (yI Y).map (fun q => (yA Y q.1 q.2.1 q.2.2, yC Y q.1 q.2.1 q.2.2 (σ q.1 q.2.1 q.2.2)))
def AS (Y : SY) : Nat → Prop := fun a => ∃ q ∈ yI Y, a = yA Y q.1 q.2.1 q.2.2
def Rh (Y : SY) (σ : St) (H : Heap) : Prop := va_P (yD Y) vwCl (wsY Y σ) H ∧ va_D (AS Y) (wsY Y σ)
def Mem (Y : SY) (E : EV) : Prop := match E with
  | (_, _, _, _, s, _, _, _, _, _, _, _) => va_K (yD Y) vwCl (yT Y) s ∧ yS Y s s.heap
def YOk (Y : SY) : Prop := ∀ (u U : State) (H H1 : Heap), u.vm.Alike U.vm → yS Y u H → (∀ a : Nat, a < H.size → ¬ AS Y a → H1[a]? = H[a]?) → yS Y U H1
def Rp (Y : SY) (σ : St) (U : State) : Prop := Rh Y σ U.heap ∧ va_K (yD Y) vwCl (yT Y) U ∧ NW U ∧ yS Y U U.heap
def up (σ : St) (kd w : Nat) (i j v : Int) : St := fun a b c d => if a = kd ∧ b = w ∧ c = i ∧ d = j then v else σ a b c d
theorem up_s (σ : St) (kd w : Nat) (i j v : Int) : up σ kd w i j v kd w i j = v := by simp [up]
theorem up_n {σ : St} {kd w : Nat} {i j v : Int} {a b : Nat} {c d : Int} (h : ¬ (a = kd ∧ b = w ∧ c = i ∧ d = j)) : up σ kd w i j v a b c d = σ a b c d := by simp [up, h]
theorem up_row {σ : St} {kd w : Nat} {i j v : Int} (r : Nat × Nat × Int) (h : r ≠ (kd, w, i)) : up σ kd w i j v r.1 r.2.1 r.2.2 = σ r.1 r.2.1 r.2.2 := by
  funext d
  refine up_n (fun q => h ?_)
  obtain ⟨a, b, c⟩ := r
  simp at q
  simp [q]
theorem ws_get {Y : SY} {σ : St} {q : Nat × Nat × Int} (hq : q ∈ yI Y) : ∃ k : Nat, (yI Y)[k]? = some q ∧ (wsY Y σ)[k]? = some (yA Y q.1 q.2.1 q.2.2, yC Y q.1 q.2.1 q.2.2 (σ q.1 q.2.1 q.2.2)) := by
  obtain ⟨k, hk⟩ := List.getElem?_of_mem hq
  exact ⟨k, hk, by simp [wsY, hk]⟩
theorem ws_set {Y : SY} {A : Nat → Prop} {σ σ' : St} {q : Nat × Nat × Int} {k : Nat} {e : va_E} (hD : va_D A (wsY Y σ)) (hk : (yI Y)[k]? = some q) (he : yC Y q.1 q.2.1 q.2.2 (σ' q.1 q.2.1 q.2.2) = e) (ho : ∀ r : Nat × Nat × Int, r ≠ q → σ' r.1 r.2.1 r.2.2 = σ r.1 r.2.1 r.2.2) : (wsY Y σ).set k (yA Y q.1 q.2.1 q.2.2, e) = wsY Y σ' := by
  apply List.ext_getElem?
  intro j
  have hkl : k < (wsY Y σ).length := by
    have := (List.getElem?_eq_some_iff.mp hk).1
    simpa [wsY] using this
  rw [List.getElem?_set]
  by_cases hj : k = j
  · subst hj
    rw [if_pos rfl, if_pos hkl, wsY, List.getElem?_map, hk]
    simp [he]
  · rw [if_neg hj, wsY, wsY, List.getElem?_map, List.getElem?_map]
    cases hr : (yI Y)[j]? with
    | none => rfl
    | some r =>
      have hne : r ≠ q := by
        intro h
        subst h
        exact hj (hD.1 k j _ _ (by rw [wsY, List.getElem?_map, hk]; rfl) (by rw [wsY, List.getElem?_map, hr]; rfl) rfl)
      simp [ho r hne]
theorem ws_adr {Y : SY} {A : Nat → Prop} {σ : St} (σ' : St) (h : va_D A (wsY Y σ)) : va_D A (wsY Y σ') := by
  have key : ∀ (τ : St) (k : Nat) (x : Nat × va_E), (wsY Y τ)[k]? = some x → ∃ y, (wsY Y σ)[k]? = some y ∧ y.1 = x.1 := by
    intro τ k x hx
    rw [wsY, List.getElem?_map] at hx
    cases hq : (yI Y)[k]? with
    | none => rw [hq] at hx; cases hx
    | some q =>
      rw [hq] at hx
      cases hx
      exact ⟨(yA Y q.1 q.2.1 q.2.2, yC Y q.1 q.2.1 q.2.2 (σ q.1 q.2.1 q.2.2)), by rw [wsY, List.getElem?_map, hq]; rfl, rfl⟩
  refine ⟨fun i j x y hx hy hxy => ?_, fun k x hx => ?_⟩
  · obtain ⟨x0, h1, h2⟩ := key σ' i x hx
    obtain ⟨y0, h3, h4⟩ := key σ' j y hy
    exact h.1 i j x0 y0 h1 h3 (h2.trans (hxy.trans h4.symm))
  · obtain ⟨x0, h1, h2⟩ := key σ' k x hx
    rw [← h2]
    exact h.2 k x0 h1
theorem ws_lt {Y : SY} {σ : St} {H : Heap} (h : Rh Y σ H) {a : Nat} (ha : AS Y a) : a < H.size := by
  obtain ⟨q, hq, rfl⟩ := ha
  obtain ⟨k, -, hk⟩ := ws_get (σ := σ) hq
  exact (h.1 k _ hk).lt
/-! contracts -/
def rmD (d : Nat) : Room := { frames := d, cells := 0, slots := 0, locals := 41 * d + 41 }
def QcOf (Y : SY) (post : Option Value → St → Prop) : Array Value → State → Outcome → State → Prop := fun _ st o t => ∃ (v : Option Value) (σ' : St), o = .returned v ∧ post v σ' ∧ Rh Y σ' t.heap ∧ va_F (AS Y) st t
def Ct (l : Launch) (Y : SY) (y : MethodName) (cd : Cond) (d : Nat) (av : List Value) (σ : St) (post : Option Value → St → Prop) : Prop :=
  Met l y (cd :: TW) (rmD d) (va_Pc av (Rp Y σ)) (QcOf Y post) 0 0 (AS Y)
def Qm (Y : SY) (post : Option Value → St → Prop) (E : EV) : State → Prop := match E with
  | (_, _, _, _, s, _, args, below, _, _, k, n) => MQ below (QcOf Y post) args s k n (AS Y)
def EL (E : EV) : Launch := E.2.1
def ER (E : EV) : Room := E.2.2.2.1
def lvE : List Value → List (Option Value)
  | [] => []
  | v :: r => if v.category = 2 then some v :: none :: lvE r else some v :: lvE r
def lvOf (av : List Value) (n : Nat) : List (Option Value) := lvE av ++ List.replicate (n - (lvE av).length) none
theorem lvE_len : ∀ av : List Value, (lvE av).length = (lg_sl av).length
  | [] => rfl
  | v :: r => by
    have ih := lvE_len r
    by_cases h : v.category = 2
    · simp [lvE, lg_sl, h, ih]
    · simp [lvE, lg_sl, h, ih]
theorem lvE_args : ∀ (av : List Value) (k i : Nat) (v : Value), (lvE av)[i]? = some (some v) → (k + i, v) ∈ lv_args k av
  | [], k, i, v, h => by simp [lvE] at h
  | x :: r, k, i, v, h => by
    by_cases hc : x.category = 2
    · rw [lvE, if_pos hc] at h
      rw [lv_args, if_pos hc]
      match i, h with
      | 0, h => simp at h; subst h; exact List.mem_cons_self
      | 1, h => simp at h
      | i + 2, h =>
        have := lvE_args r (k + 2) i v (by simpa using h)
        rw [show k + (i + 2) = k + 2 + i by omega]
        exact List.mem_cons_of_mem _ this
    · rw [lvE, if_neg hc] at h
      rw [lv_args, if_neg hc]
      match i, h with
      | 0, h => simp at h; subst h; exact List.mem_cons_self
      | i + 1, h =>
        have := lvE_args r (k + 1) i v (by simpa using h)
        rw [show k + (i + 1) = k + 1 + i by omega]
        exact List.mem_cons_of_mem _ this
theorem lvh_entry {av : List Value} {n : Nat} (h : (lvE av).length ≤ n) : lvh ((lg_sl av ++ List.replicate (n - (lg_sl av).length) Slot.unset).toArray) n (lvOf av n) := by
  have h1 := lv_entry av (n := n) (by rw [← lvE_len]; exact h)
  refine ⟨h1.1, h1.2.1, by simp [lvOf]; omega, fun i v hv => ?_⟩
  by_cases hi : i < (lvE av).length
  · rw [lvOf, List.getElem?_append_left hi] at hv
    have := lvE_args av 0 i v hv
    rw [Nat.zero_add] at this
    exact h1.2.2 (i, v) this
  · rw [lvOf, List.getElem?_append_right (by omega)] at hv
    have := List.eq_of_mem_replicate (List.mem_of_getElem? hv)
    cases this
theorem Ct_of {l : Launch} {Y : SY} {y : MethodName} {cc : ByteArray} {nL : Nat} {ret : Option FieldType} {d : Nat} {av : List Value} {σ : St} {post : Option Value → St → Prop} {own : String} (lv : List (Option Value)) (hy : plainName y.cls = true) (hyc : y.cls = own) (hn : (lvE av).length ≤ nL) (hlv : lvOf av nL = lv)
    (body : ∀ E : EV, OK E cc nL own ret → Mem Y E → EL E = l → ER E = rmD d → VV E nL (AS Y) (Qm Y post E) (Rh Y σ) 0 lv []) : Ct l Y y (.code y cc nL ret) d av σ post := by
  refine Met.ofW (cc := cc) (maxL := nL) (ret := ret) hy rfl ?_
  intro p e s m args below meth c s₁ B hml hv
  obtain ⟨rfl, hR, hK, hN, hSt⟩ := hv
  have hts := atoms_spec (ws := Cond.code y cc nL ret :: TW) B.pre
  have hown : s.vm.findClass y.cls = some m.cls := findClass_of_methodNamed B.named
  have key := body (p, l, e, (headSpec (Cond.code y cc nL ret :: TW) (rmD d)).room, s, m, av.toArray, below, meth, c, 0, 0) ⟨B.exec, B.bytes, hml, hyc ▸ hown, fun w hw => hts w (List.mem_cons_of_mem _ hw), hN, B.notSynchronized, B.returns, Nat.zero_le _, Nat.zero_le _⟩ ⟨hK, hSt⟩ rfl rfl
  have hl := lvh_entry hn
  rw [hlv] at hl
  rw [lg_entry_eq]
  exact key s.heap [] _ hR va_S.rf hl
/-! a call goes on behind it -/
theorem run_go {p : Program} {l : Launch} {e : Env} {R : Room} {s : State} {m : MethodId} {args : Array Value} {below : List Frame} {meth : Method} {c : Code} {H : Heap} {locs : List Loc} {cells slots : Nat} {Q : State → Prop} {Y : SY} {post : Option Value → St → Prop} {pc : Nat} {ls : Array Slot} {st0 rest : List Value} {a : Array Value} {A0 : Nat → Prop} {H0 : Heap}
    (hr : va_Run p l e R s m args below meth c H locs cells slots 0 0 (F0 m pc ls st0) rest (QcOf Y post a) (AS Y)) (hS : va_S A0 H0 H locs) (hA : ∀ q, AS Y q → A0 q)
    (kk : ∀ (v : Option Value) (σ' : St) (H1 : Heap) (locs1 : List Loc), post v σ' → Rh Y σ' H1 → H.size ≤ H1.size → (∀ q : Nat, q < H.size → ¬ AS Y q → H1[q]? = H[q]?) → va_S A0 H0 H1 locs1 → W p l e R s m args below meth c H1 locs1 cells slots Q (F0 m (pc + 3) ls (v.toList ++ rest))) : W p l e R s m args below meth c H locs cells slots Q (F0 m pc ls st0) := by
  intro T hT X
  obtain ⟨v, st₀, t, T', L, h0, X', hL, e1, e2, ⟨v', σ', hv, hp, hR, hz, hk⟩, st⟩ := hr T hT X
  cases hv
  rw [h0] at hz hk
  obtain ⟨t2, a1, b1⟩ := kk v σ' T'.heap (locs ++ L) hp (by rw [e1]; exact hR) (by rw [e1]; exact hz) (fun q h1 h2 => by rw [e1]; exact hk q h1 h2)
    ⟨Nat.le_trans hS.1 (by rw [e1]; exact hz), fun q h1 h2 => by rw [e1, hk q (Nat.lt_of_lt_of_le h1 hS.1) (fun z => h2 (hA q z))]; exact hS.2.1 q h1 h2, fun q hq => by
      rcases List.mem_append.mp hq with h | h
      · exact hS.2.2 q h
      · exact hA _ (hL q h)⟩ T' rfl X'
  exact ⟨t2, st t2 a1, b1⟩
def Callee (y : MethodName) (C : String) (bytes : ByteArray) (maxL : Nat) (rt : Option FieldType) (n : Nat) : Prop :=
  y.cls = C ∧ (y.cls ≠ "java/lang/invoke/MethodHandle" ∧ y.cls ≠ "java/lang/invoke/VarHandle" ∧ (parseMethodDescriptor y.desc).map (fun d => d.parameters.length) = some n) ∧ maxL ≤ 20 ∧ Cond.instanceMethod y ∈ TW ∧ Cond.selects C y y ∈ TW ∧ Cond.initialized C ∈ TW ∧ Cond.code y bytes maxL rt ∈ TW
def CalleeS (y : MethodName) (C : String) (bytes : ByteArray) (maxL : Nat) (rt : Option FieldType) (n : Nat) : Prop :=
  y.cls = C ∧ (y.cls ≠ "java/lang/invoke/MethodHandle" ∧ y.cls ≠ "java/lang/invoke/VarHandle" ∧ (parseMethodDescriptor y.desc).map (fun d => d.parameters.length) = some n) ∧ maxL ≤ 20 ∧ Cond.static y ∈ TW ∧ Cond.initialized C ∈ TW ∧ Cond.code y bytes maxL rt ∈ TW
def Recv (Y : SY) (E : EV) (σ : St) (b : Nat) (C : String) : Prop := match E with
  | (_, _, _, _, s, _, _, _, _, _, _, _) => ∀ (H : Heap) (locs : List Loc), Rh Y σ H → va_S (AS Y) s.heap H locs → ∃ cellB : Cell, H[b]? = some cellB ∧ cellB.vm.isStatics = false ∧ s.vm.findClass C = some cellB.cls
theorem rcv_of {Y : SY} {E : EV} {σ : St} (hM : Mem Y E) {q : Nat × Nat × Int} (hq : q ∈ yI Y) {ci : Nat} {fs : List Value} {r : vw_C} (hc : yC Y q.1 q.2.1 q.2.2 (σ q.1 q.2.1 q.2.2) = .inr (ci, fs)) (hcl : vwCl[ci]? = some r) : Recv Y E σ (yA Y q.1 q.2.1 q.2.2) r.1 := by
  obtain ⟨p, l, e, R, s, m, args, below, meth, c, kc, ks⟩ := E
  intro H locs hR hS
  obtain ⟨k, -, hk⟩ := ws_get (σ := σ) hq
  rw [hc] at hk
  exact va_recv hM.1 hR.1 hcl hk
theorem blind_Rp {Y : SY} (hY : YOk Y) (av : List Value) (σ : St) : FrameBlind (va_Pc av (Rp Y σ)) := fun a U g mk q => by
  obtain ⟨q0, qR, qK, qN, qS⟩ := q
  exact ⟨q0, qR, va_K.moved (u := U) (U := U.calling g mk a) (Vm.Alike.refl U.vm) qK, NW.same rfl qN, hY U (U.calling g mk a) U.heap _ (Vm.Alike.refl U.vm) qS (fun _ _ _ => rfl)⟩
theorem pre_Rp {Y : SY} (hY : YOk Y) {av : List Value} {σ : St} {s : State} {H : Heap} {locs : List Loc} (hK : va_K (yD Y) vwCl (yT Y) s) (hSt : yS Y s s.heap) (hN : NW s) (hR : Rh Y σ H) (hk : ∀ q : Nat, q < s.heap.size → ¬ AS Y q → H[q]? = s.heap[q]?) (U : State) (hU : U.heap = H) (hW : s.WarmedH U.vm) : va_Pc av (Rp Y σ) av.toArray U :=
  ⟨rfl, by rw [hU]; exact hR, va_K.moved hW.alike hK, NW.warm hW hN, hY s U s.heap U.heap hW.alike hSt (fun a h1 h2 => by rw [hU]; exact hk a h1 h2)⟩
section XC
variable {E : EV} {cc : ByteArray} {nL : Nat} {own : String} {ret : Option FieldType} {A : Nat → Prop} {Q : State → Prop} {pc pc' tgt : Nat} {lv lv' : List (Option Value)} {st stk : List Value} {Y : SY} {σ σ' : St} {l : Launch} {y : MethodName} {bytes : ByteArray} {maxL d d' idx b : Nat} {rt : Option FieldType} {As : List Value} {C host : String} {post : Option Value → St → Prop}
theorem x_callV (hE : OK E cc nL own ret) (hM : Mem Y E) (hY : YOk Y) (hl : EL E = l) (hR : ER E = rmD d) (hC : Ct l Y y (.code y bytes maxL rt) d' (.ref b :: As) σ post) (hcal : Callee y C bytes maxL rt As.length) (hlink : Cond.methodLink own idx y ∈ TW) (hrec : Recv Y E σ b C) (hdep : d' + 1 ≤ d)
    (hd : decode cc pc = .ok (.invokevirtual idx, 3)) (hp : pc' = pc + 3) (hstk : stk = As.reverse ++ .ref b :: st) (hcat : (st.map fun v => v.category).sum ≤ 8) (k : ∀ (v : Option Value) (σ' : St), post v σ' → VV E nL (AS Y) Q (Rh Y σ') pc' lv (v.toList ++ st)) : VV E nL (AS Y) Q (Rh Y σ) pc lv stk := by
  obtain ⟨p, l0, e, R, s, m, args, below, meth, c, kc, ks⟩ := E
  obtain ⟨hx, hb, hml, hown, hts, hN, hlocks, hret, hkc, hks⟩ := id hE
  obtain ⟨h1, h2, h3, h4, h5, h6, h7⟩ := hcal
  have hl : l0 = l := hl
  have hR : R = rmD d := hR
  subst hl; subst hR; subst hp; subst hstk
  intro H locs ls hJ hS hlv
  have hG : GoodIn TW (wsV own idx C y (Cond.code y bytes maxL rt :: TW)) := by
    have a1 : ∀ w ∈ wsV own idx C y (Cond.code y bytes maxL rt :: TW), w ∈ TW := by
      intro w hw
      simp only [wsV, List.cons_append, List.nil_append, List.mem_cons] at hw
      rcases hw with rfl | rfl | rfl | rfl | rfl | hw
      · exact hlink
      · exact h4
      · exact h5
      · exact h6
      · exact h7
      · exact hw
    exact TW_in a1 a1
  exact run_go (va_runV (As := As) (rest := st) ⟨hx, hb, hml, hown, hts⟩ hC (cwV As.length hts hG rfl rfl rfl ⟨h1, h2⟩ ⟨hdep, by show 8 + (maxL + 11) + (41 * d' + 41) ≤ 41 * d + 41; omega⟩)
    ⟨blind_Rp hY _ _, hrec H locs hJ hS, pre_Rp (locs := locs) hY hM.1 hM.2 hN hJ hS.2.1⟩ rfl rfl hlv.1 rfl (by show 2 * 0 + _ ≤ 8; omega) hd ⟨hkc, hks⟩) hS (fun q h => h) (fun v σ' H1 locs1 hp hR1 hz hk hS1 => k v σ' hp H1 locs1 ls hR1 hS1 hlv)
theorem x_callS (hE : OK E cc nL own ret) (hM : Mem Y E) (hY : YOk Y) (hl : EL E = l) (hR : ER E = rmD d) (hC : Ct l Y y (.code y bytes maxL rt) d' As σ post) (hcal : CalleeS y C bytes maxL rt As.length) (hlink : Cond.methodLink own idx y ∈ TW) (hdep : d' + 1 ≤ d)
    (hd : decode cc pc = .ok (.invokestatic idx, 3)) (hp : pc' = pc + 3) (hstk : stk = As.reverse ++ st) (hcat : (st.map fun v => v.category).sum ≤ 8) (k : ∀ (v : Option Value) (σ' : St), post v σ' → VV E nL (AS Y) Q (Rh Y σ') pc' lv (v.toList ++ st)) : VV E nL (AS Y) Q (Rh Y σ) pc lv stk := by
  obtain ⟨p, l0, e, R, s, m, args, below, meth, c, kc, ks⟩ := E
  obtain ⟨hx, hb, hml, hown, hts, hN, hlocks, hret, hkc, hks⟩ := id hE
  obtain ⟨h1, h2, h3, h4, h6, h7⟩ := hcal
  have hl : l0 = l := hl
  have hR : R = rmD d := hR
  subst hl; subst hR; subst hp; subst hstk
  intro H locs ls hJ hS hlv
  have hG : GoodIn TW (va_wsS own idx y (Cond.code y bytes maxL rt :: TW)) := by
    have a1 : ∀ w ∈ va_wsS own idx y (Cond.code y bytes maxL rt :: TW), w ∈ TW := by
      intro w hw
      simp only [va_wsS, List.cons_append, List.nil_append, List.mem_cons] at hw
      rcases hw with rfl | rfl | rfl | rfl | hw
      · exact hlink
      · exact h4
      · rw [h1]; exact h6
      · exact h7
      · exact hw
    exact TW_in a1 a1
  exact run_go (va_runS (As := As) (rest := st) ⟨hx, hb, hml, hown, hts⟩ hC (va_cwS As.length hts hG rfl rfl rfl h2 ⟨hdep, by show 8 + (maxL + 11) + (41 * d' + 41) ≤ 41 * d + 41; omega⟩)
    ⟨blind_Rp hY _ _, pre_Rp (locs := locs) hY hM.1 hM.2 hN hJ hS.2.1⟩ rfl rfl hlv.1 rfl (by show 2 * 0 + _ ≤ 8; omega) hd ⟨hkc, hks⟩) hS (fun q h => h) (fun v σ' H1 locs1 hp hR1 hz hk hS1 => k v σ' hp H1 locs1 ls hR1 hS1 hlv)
theorem x_callSN (hE : OK E cc nL own ret) (hM : Mem Y E) (hY : YOk Y) (hl : EL E = l) (hR : ER E = rmD d) (hC : Ct l Y y (.code y bytes maxL rt) d' As σ post) (hcal : CalleeS y C bytes maxL rt As.length) (hlink : ∀ U : State, NW U → va_Nw (.methodLinkNest own idx y host) U) (hdep : d' + 1 ≤ d)
    (hd : decode cc pc = .ok (.invokestatic idx, 3)) (hp : pc' = pc + 3) (hstk : stk = As.reverse ++ st) (hcat : (st.map fun v => v.category).sum ≤ 8) (k : ∀ (v : Option Value) (σ' : St), post v σ' → VV E nL (AS Y) Q (Rh Y σ') pc' lv (v.toList ++ st)) : VV E nL (AS Y) Q (Rh Y σ) pc lv stk := by
  obtain ⟨p, l0, e, R, s, m, args, below, meth, c, kc, ks⟩ := E
  obtain ⟨hx, hb, hml, hown, hts, hN, hlocks, hret, hkc, hks⟩ := id hE
  obtain ⟨h1, h2, h3, h4, h6, h7⟩ := hcal
  have hl : l0 = l := hl
  have hR : R = rmD d := hR
  subst hl; subst hR; subst hp; subst hstk
  intro H locs ls hJ hS hlv
  have hG : GoodIn TW (Cond.code y bytes maxL rt :: TW) := by
    have a1 : ∀ w ∈ (Cond.code y bytes maxL rt :: TW), w ∈ TW := by
      intro w hw
      rcases List.mem_cons.mp hw with rfl | hw
      · exact h7
      · exact hw
    exact TW_in a1 a1
  exact run_go (va_runSN (As := As) (rest := st) ⟨hx, hb, hml, hown, hts⟩ hC ⟨va_cnB As.length hts hG rfl rfl rfl (hlink s hN) (by rw [h1]; exact hts _ h6) h2 ⟨hdep, by show 8 + (maxL + 11) + (41 * d' + 41) ≤ 41 * d + 41; omega⟩, hts _ h4, trivial⟩
    ⟨blind_Rp hY _ _, pre_Rp (locs := locs) hY hM.1 hM.2 hN hJ hS.2.1⟩ rfl rfl hlv.1 rfl (by show 2 * 0 + _ ≤ 8; omega) hd ⟨hkc, hks⟩) hS (fun q h => h) (fun v σ' H1 locs1 hp hR1 hz hk hS1 => k v σ' hp H1 locs1 ls hR1 hS1 hlv)
/-! returns -/
theorem x_iret {x : Int32} (hE : OK E cc nL own (some .int)) (hd : decode cc pc = .ok (.ireturn, 1)) (hq : post (some (.int x)) σ) : VV E nL (AS Y) (Qm Y post E) (Rh Y σ) pc lv [.int x] := by
  obtain ⟨p, l0, e, R, s, m, args, below, meth, c, kc, ks⟩ := E
  obtain ⟨hx, hb, hml, hown, hts, hN, hlocks, hret, hkc, hks⟩ := id hE
  intro H locs ls hJ hS hlv
  exact W.iret (v := x) hx hb hret (fun t ht hW => ⟨_, σ, rfl, hq, by rw [ht]; exact hJ, hS.F ht⟩) hS.2.2 hd hlocks
theorem x_zret {x : Int32} (hE : OK E cc nL own (some .boolean)) (hd : decode cc pc = .ok (.ireturn, 1)) (hn : narrow .boolean (.int x) = .int x) (hq : post (some (.int x)) σ) : VV E nL (AS Y) (Qm Y post E) (Rh Y σ) pc lv [.int x] := by
  obtain ⟨p, l0, e, R, s, m, args, below, meth, c, kc, ks⟩ := E
  obtain ⟨hx, hb, hml, hown, hts, hN, hlocks, hret, hkc, hks⟩ := id hE
  intro H locs ls hJ hS hlv
  exact W.zret (v := x) hx hb hret hn (fun t ht hW => ⟨_, σ, rfl, hq, by rw [ht]; exact hJ, hS.F ht⟩) hS.2.2 hd hlocks
theorem x_lret {x : Int64} (hE : OK E cc nL own (some .long)) (hd : decode cc pc = .ok (.lreturn, 1)) (hq : post (some (.long x)) σ) : VV E nL (AS Y) (Qm Y post E) (Rh Y σ) pc lv [.long x] := by
  obtain ⟨p, l0, e, R, s, m, args, below, meth, c, kc, ks⟩ := E
  obtain ⟨hx, hb, hml, hown, hts, hN, hlocks, hret, hkc, hks⟩ := id hE
  intro H locs ls hJ hS hlv
  exact W.lret (v := x) hx hb hret (fun t ht hW => ⟨_, σ, rfl, hq, by rw [ht]; exact hJ, hS.F ht⟩) hS.2.2 hd hlocks
theorem x_vret (hE : OK E cc nL own none) (hd : decode cc pc = .ok (.return_, 1)) (hq : post none σ) : VV E nL (AS Y) (Qm Y post E) (Rh Y σ) pc lv [] := by
  obtain ⟨p, l0, e, R, s, m, args, below, meth, c, kc, ks⟩ := E
  obtain ⟨hx, hb, hml, hown, hts, hN, hlocks, hret, hkc, hks⟩ := id hE
  intro H locs ls hJ hS hlv
  exact W.vret hx hb hret (fun t ht hW => ⟨_, σ, rfl, hq, by rw [ht]; exact hJ, hS.F ht⟩) hS.2.2 hd hlocks
theorem nz_b (b : Bool) : narrow .boolean (.int (bI b)) = .int (bI b) := by cases b <;> rfl
/-! fields -/
theorem x_get {q : Nat × Nat × Int} {ci N j : Nat} {fs : List Value} {T : u_T} {ref : String} {v : Value} (hE : OK E cc nL own ret) (hM : Mem Y E) (hq : q ∈ yI Y) (hc : yC Y q.1 q.2.1 q.2.2 (σ q.1 q.2.1 q.2.2) = .inr (ci, fs)) (hcl : vwCl[ci]? = some (C, T, N)) (hj : j < N) (hin : ∀ w ∈ u_ws C T N, w ∈ TW) (hlink : Cond.fieldLink own idx ref (T j).2.1 (T j).2.2.1 ∈ TW) (hsame : (T j).1 = ref) (hv : fs[j]? = some v)
    (hd : decode cc pc = .ok (.getfield idx, 3)) (hp : pc' = pc + 3) (k : VV E nL A Q (Rh Y σ) pc' lv (v :: st)) : VV E nL A Q (Rh Y σ) pc lv (.ref (yA Y q.1 q.2.1 q.2.2) :: st) := by
  obtain ⟨p, l0, e, R, s, m, args, below, meth, c, kc, ks⟩ := E
  obtain ⟨hx, hb, hml, hown, hts, hN, hlocks, hret, hkc, hks⟩ := id hE
  subst hp; subst hsame
  intro H locs ls hJ hS hlv
  obtain ⟨kq, -, hk⟩ := ws_get (σ := σ) hq
  rw [hc] at hk
  exact va_get (D := yD Y) hx hb hts hin hown hM.1 hJ.1 kq hk hcl j hj (hts _ hlink) (fun _ h9 => h9) hv hd (k H locs ls hJ hS hlv)
theorem x_getN {q : Nat × Nat × Int} {ci N j : Nat} {fs : List Value} {T : u_T} {ref : String} {v : Value} (hE : OK E cc nL own ret) (hM : Mem Y E) (hq : q ∈ yI Y) (hc : yC Y q.1 q.2.1 q.2.2 (σ q.1 q.2.1 q.2.2) = .inr (ci, fs)) (hcl : vwCl[ci]? = some (C, T, N)) (hj : j < N) (hin : ∀ w ∈ u_ws C T N, w ∈ TW) (hlink : ∀ U : State, NW U → va_Nw (.fieldLinkNest own idx ref (T j).2.1 (T j).2.2.1 host) U) (hsame : (T j).1 = ref) (hv : fs[j]? = some v)
    (hd : decode cc pc = .ok (.getfield idx, 3)) (hp : pc' = pc + 3) (k : VV E nL A Q (Rh Y σ) pc' lv (v :: st)) : VV E nL A Q (Rh Y σ) pc lv (.ref (yA Y q.1 q.2.1 q.2.2) :: st) := by
  obtain ⟨p, l0, e, R, s, m, args, below, meth, c, kc, ks⟩ := E
  obtain ⟨hx, hb, hml, hown, hts, hN, hlocks, hret, hkc, hks⟩ := id hE
  subst hp; subst hsame
  intro H locs ls hJ hS hlv
  obtain ⟨kq, -, hk⟩ := ws_get (σ := σ) hq
  rw [hc] at hk
  exact va_getN (D := yD Y) hx hb hts hin hown hM.1 hJ.1 kq hk hcl j hj (va_Nw.use rfl (hlink s hN)) (fun _ h9 => h9) hv hd (k H locs ls hJ hS hlv)
theorem x_put {q : Nat × Nat × Int} {ci N j : Nat} {fs : List Value} {T : u_T} {tf : Nat → FieldType} {ty : FieldType} {ref : String} {v : Value} (hE : OK E cc nL own ret) (hM : Mem Y E) (hq : q ∈ yI Y) (hc : yC Y q.1 q.2.1 q.2.2 (σ q.1 q.2.1 q.2.2) = .inr (ci, fs)) (hcl : vwCl[ci]? = some (C, T, N)) (hj : j < N) (hin : ∀ w ∈ u_ws C T N, w ∈ TW) (hty : ∀ k, k < N → parseFieldDescriptor (T k).2.2.1 = some (tf k)) (hnm : ∀ a, a < N → ∀ b, b < N → a ≠ b → (T a).2.1 ≠ (T b).2.1) (hlink : Cond.fieldLink own idx ref (T j).2.1 (T j).2.2.1 ∈ TW) (hsame : (T j).1 = ref) (hfin : (T j).2.2.2 = false) (hpd : parseFieldDescriptor (T j).2.2.1 = some ty) (hn : narrow ty v = v) (hfit : fits ty v = true) (hl : j < fs.length) (hc' : yC Y q.1 q.2.1 q.2.2 (σ' q.1 q.2.1 q.2.2) = .inr (ci, fs.set j v)) (ho : ∀ r : Nat × Nat × Int, r ≠ q → σ' r.1 r.2.1 r.2.2 = σ r.1 r.2.1 r.2.2)
    (hd : decode cc pc = .ok (.putfield idx, 3)) (hp : pc' = pc + 3) (k : VV E nL (AS Y) Q (Rh Y σ') pc' lv st) : VV E nL (AS Y) Q (Rh Y σ) pc lv (v :: .ref (yA Y q.1 q.2.1 q.2.2) :: st) := by
  obtain ⟨p, l0, e, R, s, m, args, below, meth, c, kc, ks⟩ := E
  obtain ⟨hx, hb, hml, hown, hts, hN, hlocks, hret, hkc, hks⟩ := id hE
  subst hp; subst hsame
  intro H locs ls hJ hS hlv
  obtain ⟨kq, hk0, hk⟩ := ws_get (σ := σ) hq
  rw [hc] at hk
  exact va_put (D := yD Y) hx hb hts hin tf hty hnm hown hM.1 hJ.1 hJ.2 hS kq hk hcl j hj (hts _ hlink) (fun _ h9 => h9) hfin hpd hn hfit hl hd (fun H1 locs1 hP hD hS1 => by
    have e1 := ws_set hJ.2 hk0 hc' ho
    rw [e1] at hP hD
    exact k H1 locs1 ls ⟨hP, hD⟩ hS1 hlv)
theorem x_putN {q : Nat × Nat × Int} {ci N j : Nat} {fs : List Value} {T : u_T} {tf : Nat → FieldType} {ty : FieldType} {ref : String} {v : Value} (hE : OK E cc nL own ret) (hM : Mem Y E) (hq : q ∈ yI Y) (hc : yC Y q.1 q.2.1 q.2.2 (σ q.1 q.2.1 q.2.2) = .inr (ci, fs)) (hcl : vwCl[ci]? = some (C, T, N)) (hj : j < N) (hin : ∀ w ∈ u_ws C T N, w ∈ TW) (hty : ∀ k, k < N → parseFieldDescriptor (T k).2.2.1 = some (tf k)) (hnm : ∀ a, a < N → ∀ b, b < N → a ≠ b → (T a).2.1 ≠ (T b).2.1) (hlink : ∀ U : State, NW U → va_Nw (.fieldLinkNest own idx ref (T j).2.1 (T j).2.2.1 host) U) (hsame : (T j).1 = ref) (hfin : (T j).2.2.2 = false) (hpd : parseFieldDescriptor (T j).2.2.1 = some ty) (hn : narrow ty v = v) (hfit : fits ty v = true) (hl : j < fs.length) (hc' : yC Y q.1 q.2.1 q.2.2 (σ' q.1 q.2.1 q.2.2) = .inr (ci, fs.set j v)) (ho : ∀ r : Nat × Nat × Int, r ≠ q → σ' r.1 r.2.1 r.2.2 = σ r.1 r.2.1 r.2.2)
    (hd : decode cc pc = .ok (.putfield idx, 3)) (hp : pc' = pc + 3) (k : VV E nL (AS Y) Q (Rh Y σ') pc' lv st) : VV E nL (AS Y) Q (Rh Y σ) pc lv (v :: .ref (yA Y q.1 q.2.1 q.2.2) :: st) := by
  obtain ⟨p, l0, e, R, s, m, args, below, meth, c, kc, ks⟩ := E
  obtain ⟨hx, hb, hml, hown, hts, hN, hlocks, hret, hkc, hks⟩ := id hE
  subst hp; subst hsame
  intro H locs ls hJ hS hlv
  obtain ⟨kq, hk0, hk⟩ := ws_get (σ := σ) hq
  rw [hc] at hk
  exact va_putN (D := yD Y) hx hb hts hin tf hty hnm hown hM.1 hJ.1 hJ.2 hS kq hk hcl j hj (va_Nw.use rfl (hlink s hN)) (fun _ h9 => h9) hfin hpd hn hfit hl hd (fun H1 locs1 hP hD hS1 => by
    have e1 := ws_set hJ.2 hk0 hc' ho
    rw [e1] at hP hD
    exact k H1 locs1 ls ⟨hP, hD⟩ hS1 hlv)
/-! arrays -/
theorem x_iald {q : Nat × Nat × Int} {n t0 : Nat} {cA : ClassId} {ρ : Int → Int} {z : Int} (hE : OK E cc nL own ret) (hM : Mem Y E) (hq : q ∈ yI Y) (hc : yC Y q.1 q.2.1 q.2.2 (σ q.1 q.2.1 q.2.2) = .inl (cA, n, .inl (fun j => iN (ρ j)))) (ht : (yT Y)[t0]? = some (cA, .int)) (hn : n < 2147483648) (h0 : 0 ≤ z) (h1 : z < (n : Int)) (hd : decode cc pc = .ok (.iaload, 1)) (hp : pc' = pc + 1) (k : VV E nL A Q (Rh Y σ) pc' lv (.int (iN (ρ z)) :: st)) : VV E nL A Q (Rh Y σ) pc lv (.int (iN z) :: .ref (yA Y q.1 q.2.1 q.2.2) :: st) := by
  obtain ⟨p, l0, e, R, s, m, args, below, meth, c, kc, ks⟩ := E
  obtain ⟨hx, hb, hml, hown, hts, hN, hlocks, hret, hkc, hks⟩ := id hE
  subst hp
  intro H locs ls hJ hS hlv
  obtain ⟨kq, hk0, hk⟩ := ws_get (σ := σ) hq
  rw [hc] at hk
  refine va_iald (D := yD Y) hx hb hM.1 hJ.1 kq t0 hk ht (iN_vin h0 h1 hn) hd ?_
  show W p l0 e R s m args below meth c H locs kc ks Q (F0 m (pc + 1) ls (.int (iN (ρ ((iN z).toNatClampNeg : Nat))) :: st))
  rw [iN_nat z h0 (by omega), Int.toNat_of_nonneg h0]
  exact k H locs ls hJ hS hlv
theorem x_bald {q : Nat × Nat × Int} {n t0 : Nat} {cA : ClassId} {ρ : Int → Int} {z : Int} (hE : OK E cc nL own ret) (hM : Mem Y E) (hq : q ∈ yI Y) (hc : yC Y q.1 q.2.1 q.2.2 (σ q.1 q.2.1 q.2.2) = .inl (cA, n, .inl (fun j => iN (ρ j)))) (ht : (yT Y)[t0]? = some (cA, .byte)) (hn : n < 2147483648) (h0 : 0 ≤ z) (h1 : z < (n : Int)) (hd : decode cc pc = .ok (.baload, 1)) (hp : pc' = pc + 1) (k : VV E nL A Q (Rh Y σ) pc' lv (.int (iN (ρ z)) :: st)) : VV E nL A Q (Rh Y σ) pc lv (.int (iN z) :: .ref (yA Y q.1 q.2.1 q.2.2) :: st) := by
  obtain ⟨p, l0, e, R, s, m, args, below, meth, c, kc, ks⟩ := E
  obtain ⟨hx, hb, hml, hown, hts, hN, hlocks, hret, hkc, hks⟩ := id hE
  subst hp
  intro H locs ls hJ hS hlv
  obtain ⟨kq, hk0, hk⟩ := ws_get (σ := σ) hq
  rw [hc] at hk
  refine va_bald (D := yD Y) hx hb hM.1 hJ.1 kq t0 hk ht (iN_vin h0 h1 hn) hd ?_
  show W p l0 e R s m args below meth c H locs kc ks Q (F0 m (pc + 1) ls (.int (iN (ρ ((iN z).toNatClampNeg : Nat))) :: st))
  rw [iN_nat z h0 (by omega), Int.toNat_of_nonneg h0]
  exact k H locs ls hJ hS hlv
theorem x_zald {q : Nat × Nat × Int} {n t0 : Nat} {cA : ClassId} {ρ : Int → Int} {z : Int} (hE : OK E cc nL own ret) (hM : Mem Y E) (hq : q ∈ yI Y) (hc : yC Y q.1 q.2.1 q.2.2 (σ q.1 q.2.1 q.2.2) = .inl (cA, n, .inl (fun j => iN (ρ j)))) (ht : (yT Y)[t0]? = some (cA, .boolean)) (hn : n < 2147483648) (h0 : 0 ≤ z) (h1 : z < (n : Int)) (hd : decode cc pc = .ok (.baload, 1)) (hp : pc' = pc + 1) (k : VV E nL A Q (Rh Y σ) pc' lv (.int (iN (ρ z)) :: st)) : VV E nL A Q (Rh Y σ) pc lv (.int (iN z) :: .ref (yA Y q.1 q.2.1 q.2.2) :: st) := by
  obtain ⟨p, l0, e, R, s, m, args, below, meth, c, kc, ks⟩ := E
  obtain ⟨hx, hb, hml, hown, hts, hN, hlocks, hret, hkc, hks⟩ := id hE
  subst hp
  intro H locs ls hJ hS hlv
  obtain ⟨kq, hk0, hk⟩ := ws_get (σ := σ) hq
  rw [hc] at hk
  refine va_zald (D := yD Y) hx hb hM.1 hJ.1 kq t0 hk ht (iN_vin h0 h1 hn) hd ?_
  show W p l0 e R s m args below meth c H locs kc ks Q (F0 m (pc + 1) ls (.int (iN (ρ ((iN z).toNatClampNeg : Nat))) :: st))
  rw [iN_nat z h0 (by omega), Int.toNat_of_nonneg h0]
  exact k H locs ls hJ hS hlv
theorem x_cald {q : Nat × Nat × Int} {n t0 : Nat} {cA : ClassId} {ρ : Int → Int} {z : Int} (hE : OK E cc nL own ret) (hM : Mem Y E) (hq : q ∈ yI Y) (hc : yC Y q.1 q.2.1 q.2.2 (σ q.1 q.2.1 q.2.2) = .inl (cA, n, .inl (fun j => iN (ρ j)))) (ht : (yT Y)[t0]? = some (cA, .char)) (hn : n < 2147483648) (h0 : 0 ≤ z) (h1 : z < (n : Int)) (hd : decode cc pc = .ok (.caload, 1)) (hp : pc' = pc + 1) (k : VV E nL A Q (Rh Y σ) pc' lv (.int (iN (ρ z)) :: st)) : VV E nL A Q (Rh Y σ) pc lv (.int (iN z) :: .ref (yA Y q.1 q.2.1 q.2.2) :: st) := by
  obtain ⟨p, l0, e, R, s, m, args, below, meth, c, kc, ks⟩ := E
  obtain ⟨hx, hb, hml, hown, hts, hN, hlocks, hret, hkc, hks⟩ := id hE
  subst hp
  intro H locs ls hJ hS hlv
  obtain ⟨kq, hk0, hk⟩ := ws_get (σ := σ) hq
  rw [hc] at hk
  refine va_cald (D := yD Y) hx hb hM.1 hJ.1 kq t0 hk ht (iN_vin h0 h1 hn) hd ?_
  show W p l0 e R s m args below meth c H locs kc ks Q (F0 m (pc + 1) ls (.int (iN (ρ ((iN z).toNatClampNeg : Nat))) :: st))
  rw [iN_nat z h0 (by omega), Int.toNat_of_nonneg h0]
  exact k H locs ls hJ hS hlv
theorem x_aald {q : Nat × Nat × Int} {n t0 : Nat} {cA : ClassId} {f : Int → Nat} {z : Int} {Cn : String} (hE : OK E cc nL own ret) (hM : Mem Y E) (hq : q ∈ yI Y) (hc : yC Y q.1 q.2.1 q.2.2 (σ q.1 q.2.1 q.2.2) = .inl (cA, n, .inr (.inr (.inr (.inr (fun j => some (f j))))))) (ht : (yT Y)[t0]? = some (cA, .object Cn)) (hn : n < 2147483648) (h0 : 0 ≤ z) (h1 : z < (n : Int)) (hd : decode cc pc = .ok (.aaload, 1)) (hp : pc' = pc + 1) (k : VV E nL A Q (Rh Y σ) pc' lv (.ref (f z) :: st)) : VV E nL A Q (Rh Y σ) pc lv (.int (iN z) :: .ref (yA Y q.1 q.2.1 q.2.2) :: st) := by
  obtain ⟨p, l0, e, R, s, m, args, below, meth, c, kc, ks⟩ := E
  obtain ⟨hx, hb, hml, hown, hts, hN, hlocks, hret, hkc, hks⟩ := id hE
  subst hp
  intro H locs ls hJ hS hlv
  obtain ⟨kq, hk0, hk⟩ := ws_get (σ := σ) hq
  rw [hc] at hk
  refine va_aldq (D := yD Y) hx hb hM.1 hJ.1 kq t0 hk ht (iN_vin h0 h1 hn) hd ?_
  show W p l0 e R s m args below meth c H locs kc ks Q (F0 m (pc + 1) ls (.ref (f ((iN z).toNatClampNeg : Nat)) :: st))
  rw [iN_nat z h0 (by omega), Int.toNat_of_nonneg h0]
  exact k H locs ls hJ hS hlv
theorem x_alen {q : Nat × Nat × Int} {n t0 : Nat} {cA : ClassId} {a : vp_A} {ty : FieldType} (hE : OK E cc nL own ret) (hM : Mem Y E) (hq : q ∈ yI Y) (hc : yC Y q.1 q.2.1 q.2.2 (σ q.1 q.2.1 q.2.2) = .inl (cA, a)) (ht : (yT Y)[t0]? = some (cA, ty)) (hn : a.1 = n) (hd : decode cc pc = .ok (.arraylength, 1)) (hp : pc' = pc + 1) (k : VV E nL A Q (Rh Y σ) pc' lv (.int (iN n) :: st)) : VV E nL A Q (Rh Y σ) pc lv (.ref (yA Y q.1 q.2.1 q.2.2) :: st) := by
  obtain ⟨p, l0, e, R, s, m, args, below, meth, c, kc, ks⟩ := E
  obtain ⟨hx, hb, hml, hown, hts, hN, hlocks, hret, hkc, hks⟩ := id hE
  subst hp
  intro H locs ls hJ hS hlv
  obtain ⟨kq, hk0, hk⟩ := ws_get (σ := σ) hq
  rw [hc] at hk
  subst hn
  exact va_alen (D := yD Y) hx hb hM.1 hJ.1 kq t0 hk ht (iN_ofNat _) hd (k H locs ls hJ hS hlv)
theorem row_upd {ρ ρ' : Int → Int} {z v : Int} (h0 : 0 ≤ z) (hv : ρ' z = v) (ho : ∀ j : Int, j ≠ z → ρ' j = ρ j) : (fun j : Nat => iN (ρ' j)) = upd (fun j : Nat => iN (ρ j)) z.toNat (iN v) := by
  funext j
  unfold upd
  by_cases h : j = z.toNat
  · subst h
    rw [if_pos rfl, Int.toNat_of_nonneg h0, hv]
  · rw [if_neg h, ho]
    omega
theorem x_iast {q : Nat × Nat × Int} {n t0 : Nat} {cA : ClassId} {ρ ρ' : Int → Int} {z v : Int} (hE : OK E cc nL own ret) (hM : Mem Y E) (hq : q ∈ yI Y) (hc : yC Y q.1 q.2.1 q.2.2 (σ q.1 q.2.1 q.2.2) = .inl (cA, n, .inl (fun j => iN (ρ j)))) (ht : (yT Y)[t0]? = some (cA, .int)) (hn : n < 2147483648) (h0 : 0 ≤ z) (h1 : z < (n : Int)) (hc' : yC Y q.1 q.2.1 q.2.2 (σ' q.1 q.2.1 q.2.2) = .inl (cA, n, .inl (fun j => iN (ρ' j)))) (hw : ρ' z = v) (hw2 : ∀ j : Int, j ≠ z → ρ' j = ρ j) (ho : ∀ r : Nat × Nat × Int, r ≠ q → σ' r.1 r.2.1 r.2.2 = σ r.1 r.2.1 r.2.2) (hd : decode cc pc = .ok (.iastore, 1)) (hp : pc' = pc + 1) (k : VV E nL (AS Y) Q (Rh Y σ') pc' lv st) : VV E nL (AS Y) Q (Rh Y σ) pc lv (.int (iN v) :: .int (iN z) :: .ref (yA Y q.1 q.2.1 q.2.2) :: st) := by
  obtain ⟨p, l0, e, R, s, m, args, below, meth, c, kc, ks⟩ := E
  obtain ⟨hx, hb, hml, hown, hts, hN, hlocks, hret, hkc, hks⟩ := id hE
  subst hp
  intro H locs ls hJ hS hlv
  obtain ⟨kq, hk0, hk⟩ := ws_get (σ := σ) hq
  rw [hc] at hk
  refine va_iast (D := yD Y) hx hb hM.1 hJ.1 hJ.2 hS kq t0 hk ht (iN_vin h0 h1 hn) hd (fun H1 locs1 hP hD hS1 => ?_)
  · rw [iN_nat z h0 (by omega), ← row_upd h0 hw hw2, ← hc'] at hP hD
    have e1 := ws_set hJ.2 hk0 rfl ho
    rw [e1] at hP hD
    exact k H1 locs1 ls ⟨hP, hD⟩ hS1 hlv
theorem x_bast {q : Nat × Nat × Int} {n t0 : Nat} {cA : ClassId} {ρ ρ' : Int → Int} {z v : Int} (hE : OK E cc nL own ret) (hM : Mem Y E) (hq : q ∈ yI Y) (hc : yC Y q.1 q.2.1 q.2.2 (σ q.1 q.2.1 q.2.2) = .inl (cA, n, .inl (fun j => iN (ρ j)))) (ht : (yT Y)[t0]? = some (cA, .byte)) (hn : n < 2147483648) (h0 : 0 ≤ z) (h1 : z < (n : Int)) (hna : vp_nar .byte (iN v) = iN v) (hc' : yC Y q.1 q.2.1 q.2.2 (σ' q.1 q.2.1 q.2.2) = .inl (cA, n, .inl (fun j => iN (ρ' j)))) (hw : ρ' z = v) (hw2 : ∀ j : Int, j ≠ z → ρ' j = ρ j) (ho : ∀ r : Nat × Nat × Int, r ≠ q → σ' r.1 r.2.1 r.2.2 = σ r.1 r.2.1 r.2.2) (hd : decode cc pc = .ok (.bastore, 1)) (hp : pc' = pc + 1) (k : VV E nL (AS Y) Q (Rh Y σ') pc' lv st) : VV E nL (AS Y) Q (Rh Y σ) pc lv (.int (iN v) :: .int (iN z) :: .ref (yA Y q.1 q.2.1 q.2.2) :: st) := by
  obtain ⟨p, l0, e, R, s, m, args, below, meth, c, kc, ks⟩ := E
  obtain ⟨hx, hb, hml, hown, hts, hN, hlocks, hret, hkc, hks⟩ := id hE
  subst hp
  intro H locs ls hJ hS hlv
  obtain ⟨kq, hk0, hk⟩ := ws_get (σ := σ) hq
  rw [hc] at hk
  refine va_bast (D := yD Y) hx hb hM.1 hJ.1 hJ.2 hS kq t0 hk ht (iN_vin h0 h1 hn) hd (fun H1 locs1 hP hD hS1 => ?_)
  · rw [hna] at hP hD
    rw [iN_nat z h0 (by omega), ← row_upd h0 hw hw2, ← hc'] at hP hD
    have e1 := ws_set hJ.2 hk0 rfl ho
    rw [e1] at hP hD
    exact k H1 locs1 ls ⟨hP, hD⟩ hS1 hlv
theorem x_zast {q : Nat × Nat × Int} {n t0 : Nat} {cA : ClassId} {ρ ρ' : Int → Int} {z v : Int} (hE : OK E cc nL own ret) (hM : Mem Y E) (hq : q ∈ yI Y) (hc : yC Y q.1 q.2.1 q.2.2 (σ q.1 q.2.1 q.2.2) = .inl (cA, n, .inl (fun j => iN (ρ j)))) (ht : (yT Y)[t0]? = some (cA, .boolean)) (hn : n < 2147483648) (h0 : 0 ≤ z) (h1 : z < (n : Int)) (hna : vp_nar .boolean (iN v) = iN v) (hc' : yC Y q.1 q.2.1 q.2.2 (σ' q.1 q.2.1 q.2.2) = .inl (cA, n, .inl (fun j => iN (ρ' j)))) (hw : ρ' z = v) (hw2 : ∀ j : Int, j ≠ z → ρ' j = ρ j) (ho : ∀ r : Nat × Nat × Int, r ≠ q → σ' r.1 r.2.1 r.2.2 = σ r.1 r.2.1 r.2.2) (hd : decode cc pc = .ok (.bastore, 1)) (hp : pc' = pc + 1) (k : VV E nL (AS Y) Q (Rh Y σ') pc' lv st) : VV E nL (AS Y) Q (Rh Y σ) pc lv (.int (iN v) :: .int (iN z) :: .ref (yA Y q.1 q.2.1 q.2.2) :: st) := by
  obtain ⟨p, l0, e, R, s, m, args, below, meth, c, kc, ks⟩ := E
  obtain ⟨hx, hb, hml, hown, hts, hN, hlocks, hret, hkc, hks⟩ := id hE
  subst hp
  intro H locs ls hJ hS hlv
  obtain ⟨kq, hk0, hk⟩ := ws_get (σ := σ) hq
  rw [hc] at hk
  refine va_zast (D := yD Y) hx hb hM.1 hJ.1 hJ.2 hS kq t0 hk ht (iN_vin h0 h1 hn) hd (fun H1 locs1 hP hD hS1 => ?_)
  · rw [hna] at hP hD
    rw [iN_nat z h0 (by omega), ← row_upd h0 hw hw2, ← hc'] at hP hD
    have e1 := ws_set hJ.2 hk0 rfl ho
    rw [e1] at hP hD
    exact k H1 locs1 ls ⟨hP, hD⟩ hS1 hlv
theorem x_cast {q : Nat × Nat × Int} {n t0 : Nat} {cA : ClassId} {ρ ρ' : Int → Int} {z v : Int} (hE : OK E cc nL own ret) (hM : Mem Y E) (hq : q ∈ yI Y) (hc : yC Y q.1 q.2.1 q.2.2 (σ q.1 q.2.1 q.2.2) = .inl (cA, n, .inl (fun j => iN (ρ j)))) (ht : (yT Y)[t0]? = some (cA, .char)) (hn : n < 2147483648) (h0 : 0 ≤ z) (h1 : z < (n : Int)) (hna : vp_nar .char (iN v) = iN v) (hc' : yC Y q.1 q.2.1 q.2.2 (σ' q.1 q.2.1 q.2.2) = .inl (cA, n, .inl (fun j => iN (ρ' j)))) (hw : ρ' z = v) (hw2 : ∀ j : Int, j ≠ z → ρ' j = ρ j) (ho : ∀ r : Nat × Nat × Int, r ≠ q → σ' r.1 r.2.1 r.2.2 = σ r.1 r.2.1 r.2.2) (hd : decode cc pc = .ok (.castore, 1)) (hp : pc' = pc + 1) (k : VV E nL (AS Y) Q (Rh Y σ') pc' lv st) : VV E nL (AS Y) Q (Rh Y σ) pc lv (.int (iN v) :: .int (iN z) :: .ref (yA Y q.1 q.2.1 q.2.2) :: st) := by
  obtain ⟨p, l0, e, R, s, m, args, below, meth, c, kc, ks⟩ := E
  obtain ⟨hx, hb, hml, hown, hts, hN, hlocks, hret, hkc, hks⟩ := id hE
  subst hp
  intro H locs ls hJ hS hlv
  obtain ⟨kq, hk0, hk⟩ := ws_get (σ := σ) hq
  rw [hc] at hk
  refine va_cast (D := yD Y) hx hb hM.1 hJ.1 hJ.2 hS kq t0 hk ht (iN_vin h0 h1 hn) hd (fun H1 locs1 hP hD hS1 => ?_)
  · rw [hna] at hP hD
    rw [iN_nat z h0 (by omega), ← row_upd h0 hw hw2, ← hc'] at hP hD
    have e1 := ws_set hJ.2 hk0 rfl ho
    rw [e1] at hP hD
    exact k H1 locs1 ls ⟨hP, hD⟩ hS1 hlv
end XC
