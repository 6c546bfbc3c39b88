/-- what the reference keeps over what would be: all but its notes -/
def relM (k : Nat) (j : Int) : Prop := (k = 0 ∧ j ≠ 24 ∧ j ≠ 29) ∨ (1 ≤ k ∧ k ≤ 11) ∨ (16 ≤ k ∧ k ≤ 20)
def Sc (τ τ' : St) : Prop := ∀ (k : Nat) (j : Int), relM k j → τ' k 0 0 j = τ k 0 0 j
def Sv (τ0 σ : St) : Prop := (∀ (k : Nat) (j : Int), relM k j → ¬ (k = 0 ∧ j = 3) → ¬ (k = 2 ∧ 0 ≤ j ∧ j < 8) → ¬ ((k = 6 ∨ k = 7 ∨ k = 8) ∧ 0 ≤ j ∧ j < 5) → σ k 0 0 j = τ0 k 0 0 j) ∧ σ 0 0 0 24 = τ0 0 0 0 3 ∧ (∀ c, 0 ≤ c → c < 8 → σ 12 0 0 c = τ0 2 0 0 c) ∧ (∀ f, 0 ≤ f → f < 5 → σ 13 0 0 f = τ0 6 0 0 f ∧ σ 14 0 0 f = τ0 7 0 0 f ∧ σ 15 0 0 f = τ0 8 0 0 f)
theorem Sc.refl (τ : St) : Sc τ τ := fun _ _ _ => rfl
theorem Sc.trans {a b c : St} (h1 : Sc a b) (h2 : Sc b c) : Sc a c := fun k j h => (h2 k j h).trans (h1 k j h)
theorem Sc.at {τ τ' : St} (h : Sc τ τ') (k : Nat) (j : Int) (hr : (k = 0 ∧ j ≠ 24 ∧ j ≠ 29) ∨ (1 ≤ k ∧ k ≤ 11) ∨ (16 ≤ k ∧ k ≤ 20)) : τ' k 0 0 j = τ k 0 0 j := h k j hr
/-- what counts of a state: its notes don't, nor feasts behind their number -/
def relD (τ : St) (k : Nat) (j : Int) : Prop := (k = 0 ∧ j ≠ 20 ∧ j ≠ 21 ∧ j ≠ 22 ∧ j ≠ 24 ∧ j ≠ 29 ∧ j ≠ 42) ∨ (k = 1 ∧ 0 ≤ j ∧ j < τ 0 0 0 1) ∨ (2 ≤ k ∧ k ≤ 10) ∨ (16 ≤ k ∧ k ≤ 20)
def Sd (τ τ' : St) : Prop := ∀ (k : Nat) (j : Int), relD τ k j → τ' k 0 0 j = τ k 0 0 j
theorem Sd.at {τ τ' : St} (h : Sd τ τ') (k : Nat) (j : Int) (hr : (k = 0 ∧ j ≠ 20 ∧ j ≠ 21 ∧ j ≠ 22 ∧ j ≠ 24 ∧ j ≠ 29 ∧ j ≠ 42) ∨ (k = 1 ∧ 0 ≤ j ∧ j < τ 0 0 0 1) ∨ (2 ≤ k ∧ k ≤ 10) ∨ (16 ≤ k ∧ k ≤ 20)) : τ' k 0 0 j = τ k 0 0 j := h k j hr
theorem Sc.sd {τ τ' : St} (h : Sc τ τ') : Sd τ τ' := fun k j hr => by
  unfold relD at hr
  exact h.at k j (by omega)
theorem Sd.refl (τ : St) : Sd τ τ := fun _ _ _ => rfl
theorem Sd.trans {a b c : St} (h1 : Sd a b) (h2 : Sd b c) : Sd a c := fun k j h => by
  have e := h1.at 0 1 (by omega)
  have h' : relD b k j := by
    unfold relD at h ⊢
    omega
  exact (h2 k j h').trans (h1 k j h)
theorem anyU_c {p q : Int → Bool} : ∀ n : Nat, (∀ k : Int, 0 ≤ k → k < n → p k = q k) → anyU p n = anyU q n
  | 0, _ => rfl
  | n + 1, h => by rw [anyU, anyU, anyU_c n (fun k h0 h1 => h k h0 (by omega)), h n (by omega) (by omega)]
theorem isF_c {fn : Int} {fo fo' : Int → Int} (h : ∀ k, 0 ≤ k → k < fn → fo' k = fo k) : isF fn fo' = isF fn fo := by
  funext d
  exact anyU_c _ (fun k h0 h1 => by rw [h k h0 (by omega)])
theorem Sd.wv {τ τ' : St} (h : Sd τ τ') : wv τ' = wv τ := by
  funext r i
  unfold Jvm.Pilot.@@N@@.wv
  split
  · rw [h.at 0 5 (by omega), h.at 0 9 (by omega), h.at 0 3 (by omega)]
  · split
    · exact h.at 2 i (by omega)
    · split
      · exact h.at (r + 2) i (by omega)
      · rfl
theorem Sd.fv {τ τ' : St} (h : Sd τ τ') : fv τ' = fv τ := by
  unfold Jvm.Pilot.@@N@@.fv
  rw [h.at 0 1 (by omega)]
  exact isF_c (fun k h0 h1 => h.at 1 k (by omega))
theorem Sd.fok {τ τ' : St} (h : Sd τ τ') (hF : FOk (τ 0 0 0 1) (τ 1 0 0)) : FOk (τ' 0 0 0 1) (τ' 1 0 0) := by
  have e := h.at 0 1 (by omega)
  refine ⟨by rw [e]; exact hF.1, fun k h0 h1 => ?_⟩
  rw [h.at 1 k (by omega)]
  exact hF.2 k h0 (by omega)
theorem Sc.wv {τ τ' : St} (h : Sc τ τ') : wv τ' = wv τ := h.sd.wv
theorem Sc.fv {τ τ' : St} (h : Sc τ τ') : fv τ' = fv τ := h.sd.fv
theorem Sc.fok {τ τ' : St} (h : Sc τ τ') (hF : FOk (τ 0 0 0 1) (τ 1 0 0)) : FOk (τ' 0 0 0 1) (τ' 1 0 0) := h.sd.fok hF
def svA (σ : St) (k : Int) : St := fun a b c d => if a = 12 ∧ b = 0 ∧ c = 0 ∧ 0 ≤ d ∧ d < k then σ 2 0 0 d else σ a b c d
def svB (σ : St) (k : Int) : St := fun a b c d => if b = 0 ∧ c = 0 ∧ 0 ≤ d ∧ d < k then (if a = 13 then σ 6 0 0 d else if a = 14 then σ 7 0 0 d else if a = 15 then σ 8 0 0 d else σ a b c d) else σ a b c d
def bkA (σ : St) (k : Int) : St := fun a b c d => if a = 2 ∧ b = 0 ∧ c = 0 ∧ 0 ≤ d ∧ d < k then σ 12 0 0 d else σ a b c d
def bkB (σ : St) (k : Int) : St := fun a b c d => if b = 0 ∧ c = 0 ∧ 0 ≤ d ∧ d < k then (if a = 6 then σ 13 0 0 d else if a = 7 then σ 14 0 0 d else if a = 8 then σ 15 0 0 d else σ a b c d) else σ a b c d
def svT (τ : St) : St := svB (svA (up τ 0 0 0 24 (τ 0 0 0 3)) 8) 5
def bkT (τ : St) : St := bkB (bkA (up τ 0 0 0 3 (τ 0 0 0 24)) 8) 5
theorem svA_0 (σ : St) : svA σ 0 = σ := by
  funext a b c d
  unfold svA
  rw [if_neg (by omega)]
theorem svA_s (σ : St) {k : Int} (h0 : 0 ≤ k) : up (svA σ k) 12 0 0 k (svA σ k 2 0 0 k) = svA σ (k + 1) := by
  funext a b c d
  by_cases h : a = 12 ∧ b = 0 ∧ c = 0
  · obtain ⟨rfl, rfl, rfl⟩ := h
    by_cases hd : d = k
    · subst hd
      rw [up_s]
      have h1 : d < d + 1 := by omega
      simp [svA, h0, h1]
    · rw [up_n (fun q => hd q.2.2.2)]
      have h1 : (0 ≤ d ∧ d < k + 1) ↔ (0 ≤ d ∧ d < k) := by omega
      simp [svA, h1]
  · rw [up_n (fun q => h ⟨q.1, q.2.1, q.2.2.1⟩)]
    unfold svA
    rw [if_neg (fun q => h ⟨q.1, q.2.1, q.2.2.1⟩), if_neg (fun q => h ⟨q.1, q.2.1, q.2.2.1⟩)]
theorem bkA_0 (σ : St) : bkA σ 0 = σ := by
  funext a b c d
  unfold bkA
  rw [if_neg (by omega)]
theorem bkA_s (σ : St) {k : Int} (h0 : 0 ≤ k) : up (bkA σ k) 2 0 0 k (bkA σ k 12 0 0 k) = bkA σ (k + 1) := by
  funext a b c d
  by_cases h : a = 2 ∧ b = 0 ∧ c = 0
  · obtain ⟨rfl, rfl, rfl⟩ := h
    by_cases hd : d = k
    · subst hd
      rw [up_s]
      have h1 : d < d + 1 := by omega
      simp [bkA, h0, h1]
    · rw [up_n (fun q => hd q.2.2.2)]
      have h1 : (0 ≤ d ∧ d < k + 1) ↔ (0 ≤ d ∧ d < k) := by omega
      simp [bkA, h1]
  · rw [up_n (fun q => h ⟨q.1, q.2.1, q.2.2.1⟩)]
    unfold bkA
    rw [if_neg (fun q => h ⟨q.1, q.2.1, q.2.2.1⟩), if_neg (fun q => h ⟨q.1, q.2.1, q.2.2.1⟩)]
theorem svB_0 (σ : St) : svB σ 0 = σ := by
  funext a b c d
  unfold svB
  rw [if_neg (by omega)]
theorem svB_s (σ : St) {k : Int} (h0 : 0 ≤ k) : up (up (up (svB σ k) 13 0 0 k (svB σ k 6 0 0 k)) 14 0 0 k ((up (svB σ k) 13 0 0 k (svB σ k 6 0 0 k)) 7 0 0 k)) 15 0 0 k ((up (up (svB σ k) 13 0 0 k (svB σ k 6 0 0 k)) 14 0 0 k ((up (svB σ k) 13 0 0 k (svB σ k 6 0 0 k)) 7 0 0 k)) 8 0 0 k) = svB σ (k + 1) := by
  have hk : k < k + 1 := by omega
  have x1 : svB σ k 6 0 0 k = σ 6 0 0 k := by simp [svB]
  have x2 : (up (svB σ k) 13 0 0 k (svB σ k 6 0 0 k)) 7 0 0 k = σ 7 0 0 k := by simp [svB, up]
  have x3 : (up (up (svB σ k) 13 0 0 k (svB σ k 6 0 0 k)) 14 0 0 k ((up (svB σ k) 13 0 0 k (svB σ k 6 0 0 k)) 7 0 0 k)) 8 0 0 k = σ 8 0 0 k := by simp [svB, up]
  rw [x3, x2, x1]
  funext a b c d
  by_cases h : b = 0 ∧ c = 0
  · obtain ⟨rfl, rfl⟩ := h
    by_cases hd : d = k
    · subst hd
      by_cases a1 : a = 13
      · subst a1; simp [up, svB, h0, hk]
      · by_cases a2 : a = 14
        · subst a2; simp [up, svB, h0, hk]
        · by_cases a3 : a = 15
          · subst a3; simp [up, svB, h0, hk]
          · simp [up, svB, a1, a2, a3]
    · rw [up_n (fun q => hd q.2.2.2), up_n (fun q => hd q.2.2.2), up_n (fun q => hd q.2.2.2)]
      have h1 : (0 ≤ d ∧ d < k + 1) ↔ (0 ≤ d ∧ d < k) := by omega
      simp [svB, h1]
  · rw [up_n (fun q => h ⟨q.2.1, q.2.2.1⟩), up_n (fun q => h ⟨q.2.1, q.2.2.1⟩), up_n (fun q => h ⟨q.2.1, q.2.2.1⟩)]
    unfold svB
    rw [if_neg (fun q => h ⟨q.1, q.2.1⟩), if_neg (fun q => h ⟨q.1, q.2.1⟩)]
theorem bkB_0 (σ : St) : bkB σ 0 = σ := by
  funext a b c d
  unfold bkB
  rw [if_neg (by omega)]
theorem bkB_s (σ : St) {k : Int} (h0 : 0 ≤ k) : up (up (up (bkB σ k) 6 0 0 k (bkB σ k 13 0 0 k)) 7 0 0 k ((up (bkB σ k) 6 0 0 k (bkB σ k 13 0 0 k)) 14 0 0 k)) 8 0 0 k ((up (up (bkB σ k) 6 0 0 k (bkB σ k 13 0 0 k)) 7 0 0 k ((up (bkB σ k) 6 0 0 k (bkB σ k 13 0 0 k)) 14 0 0 k)) 15 0 0 k) = bkB σ (k + 1) := by
  have hk : k < k + 1 := by omega
  have x1 : bkB σ k 13 0 0 k = σ 13 0 0 k := by simp [bkB]
  have x2 : (up (bkB σ k) 6 0 0 k (bkB σ k 13 0 0 k)) 14 0 0 k = σ 14 0 0 k := by simp [bkB, up]
  have x3 : (up (up (bkB σ k) 6 0 0 k (bkB σ k 13 0 0 k)) 7 0 0 k ((up (bkB σ k) 6 0 0 k (bkB σ k 13 0 0 k)) 14 0 0 k)) 15 0 0 k = σ 15 0 0 k := by simp [bkB, up]
  rw [x3, x2, x1]
  funext a b c d
  by_cases h : b = 0 ∧ c = 0
  · obtain ⟨rfl, rfl⟩ := h
    by_cases hd : d = k
    · subst hd
      by_cases a1 : a = 6
      · subst a1; simp [up, bkB, h0, hk]
      · by_cases a2 : a = 7
        · subst a2; simp [up, bkB, h0, hk]
        · by_cases a3 : a = 8
          · subst a3; simp [up, bkB, h0, hk]
          · simp [up, bkB, a1, a2, a3]
    · rw [up_n (fun q => hd q.2.2.2), up_n (fun q => hd q.2.2.2), up_n (fun q => hd q.2.2.2)]
      have h1 : (0 ≤ d ∧ d < k + 1) ↔ (0 ≤ d ∧ d < k) := by omega
      simp [bkB, h1]
  · rw [up_n (fun q => h ⟨q.2.1, q.2.2.1⟩), up_n (fun q => h ⟨q.2.1, q.2.2.1⟩), up_n (fun q => h ⟨q.2.1, q.2.2.1⟩)]
    unfold bkB
    rw [if_neg (fun q => h ⟨q.1, q.2.1⟩), if_neg (fun q => h ⟨q.1, q.2.1⟩)]
theorem Sc_svT (τ : St) : Sc τ (svT τ) := by
  intro k j h
  unfold relM at h
  have e1 : ¬ (k = 0 ∧ (0 : Nat) = 0 ∧ (0 : Int) = 0 ∧ j = 24) := by omega
  have e2 : ¬ (k = 12 ∧ (0 : Nat) = 0 ∧ (0 : Int) = 0 ∧ 0 ≤ j ∧ j < 8) := by omega
  have e3 : ¬ k = 13 := by omega
  have e4 : ¬ k = 14 := by omega
  have e5 : ¬ k = 15 := by omega
  unfold svT svB
  split
  · try rw [if_neg e3, if_neg e4, if_neg e5]
    unfold svA
    rw [if_neg e2, up_n e1]
  · unfold svA
    rw [if_neg e2, up_n e1]
theorem Sv_svT (τ : St) : Sv τ (svT τ) := by
  refine ⟨fun k j h _ _ _ => Sc_svT τ k j h, ?_, fun c h0 h1 => ?_, fun f h0 h1 => ⟨?_, ?_, ?_⟩⟩
  · simp [svT, svB, svA, up]
  · simp [svT, svB, svA, up, h0, h1]
  · simp [svT, svB, svA, up, h0, h1]
  · simp [svT, svB, svA, up, h0, h1]
  · simp [svT, svB, svA, up, h0, h1]
theorem Sc_bkT {τ0 σ : St} (h : Sv τ0 σ) : Sc τ0 (bkT σ) := by
  obtain ⟨h1, h2, h3, h4⟩ := h
  intro k j hr
  have hr' := hr
  unfold relM at hr'
  by_cases a0 : k = 0 ∧ j = 3
  · obtain ⟨rfl, rfl⟩ := a0
    simp [bkT, bkB, bkA, up, h2]
  · by_cases a2 : k = 2 ∧ 0 ≤ j ∧ j < 8
    · obtain ⟨rfl, b0, b1⟩ := a2
      simp [bkT, bkB, bkA, up, b0, b1]
      exact h3 j b0 b1
    · by_cases a6 : (k = 6 ∨ k = 7 ∨ k = 8) ∧ 0 ≤ j ∧ j < 5
      · obtain ⟨hk, b0, b1⟩ := a6
        obtain ⟨c1, c2, c3⟩ := h4 j b0 b1
        rcases hk with rfl | rfl | rfl
        · simp [bkT, bkB, bkA, up, b0, b1]; exact c1
        · simp [bkT, bkB, bkA, up, b0, b1]; exact c2
        · simp [bkT, bkB, bkA, up, b0, b1]; exact c3
      · rw [← h1 k j hr a0 a2 a6]
        have e0 : ¬ (k = 0 ∧ (0 : Nat) = 0 ∧ (0 : Int) = 0 ∧ j = 3) := by omega
        have e2 : ¬ (k = 2 ∧ (0 : Nat) = 0 ∧ (0 : Int) = 0 ∧ 0 ≤ j ∧ j < 8) := by omega
        show bkB _ 5 k 0 0 j = _
        unfold bkB
        split
        · rename_i q
          have e6 : ¬ k = 6 := by omega
          have e7 : ¬ k = 7 := by omega
          have e8 : ¬ k = 8 := by omega
          rw [if_neg e6, if_neg e7, if_neg e8]
          unfold bkA
          rw [if_neg e2, up_n e0]
        · unfold bkA
          rw [if_neg e2, up_n e0]
theorem Sv_bkT {τ0 σ : St} (h : Sv τ0 σ) : Sv τ0 (bkT σ) := by
  have hc := Sc_bkT h
  obtain ⟨h1, h2, h3, h4⟩ := h
  refine ⟨fun k j h _ _ _ => hc k j h, ?_, fun c b0 b1 => ?_, fun f b0 b1 => ?_⟩
  · simp [bkT, bkB, bkA, up]; exact h2
  · simp [bkT, bkB, bkA, up]; exact h3 c b0 b1
  · simp [bkT, bkB, bkA, up]; exact h4 f b0 b1
theorem goTA_out {σ : St} {D : Int} (h : WOk D (wv σ)) {f : Int} (hf : f < 0 ∨ 5 ≤ f) (n : Nat) (hn : n ≤ 4) : goTA σ n 8 0 0 f = σ 8 0 0 f := by
  have h2 := h.2.1
  have := goA_out (F := fv σ) h (f := f) (by omega) n hn
  rw [← wv_goTA] at this
  exact this
theorem Sv_goT {τ0 σ : St} {D : Int} (h : Sv τ0 σ) (hW : WOk D (wv σ)) : Sv τ0 (goT σ) := by
  obtain ⟨h1, h2, h3, h4⟩ := h
  have hn : 0 ≤ σ 0 0 0 5 ∧ σ 0 0 0 5 ≤ 4 := hW.1
  refine ⟨fun k j hr a0 a2 a6 => ?_, ?_, fun c b0 b1 => ?_, fun f b0 b1 => ?_⟩
  · rw [← h1 k j hr a0 a2 a6]
    by_cases e : k = 8
    · subst e
      unfold goT
      rw [up_n (by omega)]
      exact goTA_out hW (by omega) _ (by omega)
    · exact goT_o σ e 0 0 j (by omega)
  · rw [goT_o σ (by decide) _ _ _ (by decide)]; exact h2
  · rw [goT_o σ (by decide) _ _ _ (by omega)]; exact h3 c b0 b1
  · rw [goT_o σ (by decide) _ _ _ (by omega), goT_o σ (by decide) _ _ _ (by omega), goT_o σ (by decide) _ _ _ (by omega)]; exact h4 f b0 b1
theorem Sv_up {τ0 σ : St} {k : Nat} {i v : Int} (h : Sv τ0 σ) (hk : (k = 2 ∧ 0 ≤ i ∧ i < 8) ∨ ((k = 6 ∨ k = 7 ∨ k = 8) ∧ 0 ≤ i ∧ i < 5)) : Sv τ0 (up σ k 0 0 i v) := by
  obtain ⟨h1, h2, h3, h4⟩ := h
  refine ⟨fun a j hr a0 a2 a6 => ?_, ?_, fun c b0 b1 => ?_, fun f b0 b1 => ?_⟩
  · rw [up_n (by omega)]; exact h1 a j hr a0 a2 a6
  · rw [up_n (by omega)]; exact h2
  · rw [up_n (by omega)]; exact h3 c b0 b1
  · rw [up_n (by omega), up_n (by omega), up_n (by omega)]; exact h4 f b0 b1
def dNT (σ : St) : Nat → St
  | 0 => σ
  | n + 1 => goT (dNT σ n)
theorem fv_dNT (σ : St) : ∀ n : Nat, fv (dNT σ n) = fv σ
  | 0 => rfl
  | n + 1 => by rw [dNT, fv_goT, fv_dNT σ n]
theorem wv_dNT (σ : St) : ∀ n : Nat, wv (dNT σ n) = dN (fv σ) (wv σ) n
  | 0 => rfl
  | n + 1 => by rw [dNT, wv_goT, fv_dNT, wv_dNT σ n, dN]
theorem dNT_o (σ : St) {a : Nat} (h : a ≠ 8) (b : Nat) (c d : Int) (h2 : ¬ (a = 0 ∧ b = 0 ∧ c = 0 ∧ d = 3)) : ∀ n : Nat, dNT σ n a b c d = σ a b c d
  | 0 => rfl
  | n + 1 => by rw [dNT, goT_o _ h b c d h2, dNT_o σ h b c d h2 n]
theorem goT_fok {σ : St} (hF : FOk (σ 0 0 0 1) (σ 1 0 0)) : FOk (goT σ 0 0 0 1) (goT σ 1 0 0) := by
  rw [goT_o σ (by decide) _ _ _ (by decide), show goT σ 1 0 0 = σ 1 0 0 from funext fun d => goT_o σ (by decide) 0 0 d (by omega)]
  exact hF
theorem dNT_fok {σ : St} (hF : FOk (σ 0 0 0 1) (σ 1 0 0)) : ∀ n : Nat, FOk (dNT σ n 0 0 0 1) (dNT σ n 1 0 0)
  | 0 => hF
  | n + 1 => goT_fok (dNT_fok hF n)
theorem goT_ok {σ : St} {D : Int} (h : WOk D (wv σ)) : WOk (D + 1) (wv (goT σ)) := by rw [wv_goT]; exact goD_ok h
theorem dNT_ok {σ : St} {D : Int} (h : WOk D (wv σ)) (n : Nat) : WOk (D + n) (wv (dNT σ n)) := by rw [wv_dNT]; exact dN_ok h n
theorem Sv_dNT {τ0 σ : St} {D : Int} (h : Sv τ0 σ) (hW : WOk D (wv σ)) : ∀ n : Nat, Sv τ0 (dNT σ n)
  | 0 => h
  | n + 1 => Sv_goT (Sv_dNT h hW n) (dNT_ok hW n)
theorem wv_up6 (τ : St) (f v : Int) : wv (up τ 6 0 0 f v) = wu (wv τ) 4 f v := by
  funext r i
  by_cases h0 : r = 0
  · subst h0; simp [wv, wu, up]
  · by_cases h7 : r = 7
    · subst h7; simp [wv, wu, up]
    · by_cases h6 : r = 4
      · subst h6; simp [wv, wu, up]
      · have h8 : ¬ r + 2 = 6 := by omega
        simp [wv, wu, up, h0, h7, h6, h8]
theorem wv_up7 (τ : St) (f v : Int) : wv (up τ 7 0 0 f v) = wu (wv τ) 5 f v := by
  funext r i
  by_cases h0 : r = 0
  · subst h0; simp [wv, wu, up]
  · by_cases h7 : r = 7
    · subst h7; simp [wv, wu, up]
    · by_cases h6 : r = 5
      · subst h6; simp [wv, wu, up]
      · have h8 : ¬ r + 2 = 7 := by omega
        simp [wv, wu, up, h0, h7, h6, h8]
theorem wv_up2 (τ : St) (f v : Int) : wv (up τ 2 0 0 f v) = wu (wv τ) 7 f v := by
  funext r i
  by_cases h0 : r = 0
  · subst h0; simp [wv, wu, up]
  · by_cases h7 : r = 7
    · subst h7; simp [wv, wu, up]
    · have h8 : ¬ r + 2 = 2 := by omega
      simp [wv, wu, up, h0, h7, h8]
theorem fv_up (τ : St) {k : Nat} (i v : Int) (h : k ≠ 0) (h1 : k ≠ 1) : fv (up τ k 0 0 i v) = fv τ := by
  unfold fv
  rw [up_n (by omega), show up τ k 0 0 i v 1 0 0 = τ 1 0 0 from funext fun d => up_n (by omega)]
theorem fok_up {τ : St} {k : Nat} (i v : Int) (h : k ≠ 0) (h1 : k ≠ 1) (hF : FOk (τ 0 0 0 1) (τ 1 0 0)) : FOk (up τ k 0 0 i v 0 0 0 1) (up τ k 0 0 i v 1 0 0) := by
  rw [up_n (by omega), show up τ k 0 0 i v 1 0 0 = τ 1 0 0 from funext fun d => up_n (by omega)]
  exact hF
theorem wu4_ok {D : Int} {W : Wd} {i v : Int} (h : WOk D W) (h0 : 0 ≤ v) (h1 : v ≤ 9) : WOk D (wu W 4 i v) := by
  obtain ⟨a, b, c, d, e, f⟩ := h
  refine ⟨a, b, c, d, fun g g0 g1 => ?_, f⟩
  have := e g g0 g1
  refine ⟨?_, this.2⟩
  show 0 ≤ wu W 4 i v 4 g ∧ wu W 4 i v 4 g ≤ 9
  unfold wu
  split <;> omega
theorem wu5_ok {D : Int} {W : Wd} {i v : Int} (h : WOk D W) (h0 : -1 ≤ v) (h1 : v ≤ 8) : WOk D (wu W 5 i v) := by
  obtain ⟨a, b, c, d, e, f⟩ := h
  refine ⟨a, b, c, d, fun g g0 g1 => ?_, f⟩
  have := e g g0 g1
  refine ⟨this.1, ?_, this.2.2⟩
  show -1 ≤ wu W 5 i v 5 g ∧ wu W 5 i v 5 g ≤ 8
  unfold wu
  split <;> omega
theorem wu7_ok {D : Int} {W : Wd} {i v : Int} (h : WOk D W) (h0 : 0 ≤ v) (h1 : v ≤ 29) : WOk D (wu W 7 i v) := by
  obtain ⟨a, b, c, d, e, f⟩ := h
  refine ⟨a, b, c, d, e, fun g g0 g1 => ?_⟩
  have := f g g0 g1
  show 0 ≤ wu W 7 i v 7 g ∧ wu W 7 i v 7 g ≤ 29
  unfold wu
  split <;> omega
theorem eatN_bd {W : Wd} {D : Int} (h : WOk D W) : 0 ≤ eatN W ∧ eatN W ≤ 5 := by
  have := cntU_bd (fun f => decide (W 6 f ≠ -1)) (W 0 1).toNat
  have h2 := h.2.1
  unfold eatN
  omega
theorem fallK_bd (F : Int → Bool) (f : Int) : ∀ (n : Nat) (W : Wd) (k : Int), 0 ≤ k → -1 ≤ fallK F W f n k ∧ fallK F W f n k < k + n
  | 0, _, k, h => by simp [fallK]; omega
  | n + 1, W, k, h => by
    have ih := fallK_bd F f n (goD F W) (k + 1) (by omega)
    rw [fallK]
    split <;> omega
set_option maxHeartbeats 4000000 in
set_option maxRecDepth 10000 in
theorem c_X9_save (l : Launch) (G : GM) (τ : St) : Ct l (YM G) yX9_save (.code yX9_save cX9_save 2 none) 0 [.ref (aM G 0)] τ (fun v τ' => v = none ∧ Sv τ τ' ∧ Sc τ τ') := by
  refine Ct_of (own := RX9) [some (.ref (aM G 0)), none] rfl rfl (Nat.le_of_ble_eq_true rfl) rfl ?_
  intro E hE hM hl hR
  have loopB : ∀ (n : Nat) (k : Int), 0 ≤ k → k ≤ 5 → 5 - k = n → VV E 2 (AS (YM G)) (Qm (YM G) (fun v τ' => v = none ∧ Sv τ τ' ∧ Sc τ τ') E) (Rh (YM G) (svB (svA (up τ 0 0 0 24 (τ 0 0 0 3)) 8) k)) 36 [some (.ref (aM G 0)), some (.int (iN (k)))] [] := by
    intro n
    induction n using Nat.strongRecOn with
    | _ n ih =>
    intro k g0 g1 g2
    generalize hS : svA (up τ 0 0 0 24 (τ 0 0 0 3)) 8 = S at *
    refine x_iload_n (pc' := 37) hE dX9_save_36 rfl rfl ?_
    refine x_iconst (pc' := 38) hE dX9_save_37 rfl ?_
    refine x_icmpge (tgt := 83) (pc' := 41) hE dX9_save_38 (by decide) rfl ⟨by omega, by omega⟩ ⟨by omega, by omega⟩ (fun h1 => ?_) (fun h1 => ?_)
    · refine x_vret hE dX9_save_83 ?_
      have e : k = 5 := by omega
      subst e
      subst hS
      exact ⟨rfl, Sv_svT τ, Sc_svT τ⟩
    · refine x_aload_n (pc' := 42) hE dX9_save_41 rfl rfl ?_
      refine gM_26 (pc' := 45) hE hM tF_X9_51 dX9_save_42 rfl ?_
      refine x_iload_n (pc' := 46) hE dX9_save_45 rfl rfl ?_
      refine x_aload_n (pc' := 47) hE dX9_save_46 rfl rfl ?_
      refine gM_10 (pc' := 50) hE hM tF_X9_25 dX9_save_47 rfl ?_
      refine x_iload_n (pc' := 51) hE dX9_save_50 rfl rfl ?_
      refine aM_6 (pc' := 52) hE hM (by omega) (by omega) dX9_save_51 rfl ?_
      refine sM_13 (pc' := 53) hE hM (by omega) (by omega) dX9_save_52 rfl ?_
      refine x_aload_n (pc' := 54) hE dX9_save_53 rfl rfl ?_
      refine gM_27 (pc' := 57) hE hM tF_X9_54 dX9_save_54 rfl ?_
      refine x_iload_n (pc' := 58) hE dX9_save_57 rfl rfl ?_
      refine x_aload_n (pc' := 59) hE dX9_save_58 rfl rfl ?_
      refine gM_11 (pc' := 62) hE hM tF_X9_28 dX9_save_59 rfl ?_
      refine x_iload_n (pc' := 63) hE dX9_save_62 rfl rfl ?_
      refine aM_7 (pc' := 64) hE hM (by omega) (by omega) dX9_save_63 rfl ?_
      refine sM_14 (pc' := 65) hE hM (by omega) (by omega) dX9_save_64 rfl ?_
      refine x_aload_n (pc' := 66) hE dX9_save_65 rfl rfl ?_
      refine gM_28 (pc' := 69) hE hM tF_X9_57 dX9_save_66 rfl ?_
      refine x_iload_n (pc' := 70) hE dX9_save_69 rfl rfl ?_
      refine x_aload_n (pc' := 71) hE dX9_save_70 rfl rfl ?_
      refine gM_12 (pc' := 74) hE hM tF_X9_31 dX9_save_71 rfl ?_
      refine x_iload_n (pc' := 75) hE dX9_save_74 rfl rfl ?_
      refine aM_8 (pc' := 76) hE hM (by omega) (by omega) dX9_save_75 rfl ?_
      refine sM_15 (pc' := 77) hE hM (by omega) (by omega) dX9_save_76 rfl ?_
      refine x_iinc (pc' := 80) hE dX9_save_77 rfl rfl (by decide) rfl rfl ?_
      dsimp only [List.set]
      refine x_goto (tgt := 36) hE dX9_save_80 (by decide) ?_
      rw [svB_s S g0]
      exact ih (n - 1) (by omega) (k + 1) (by omega) (by omega) (by omega)
  have loopA : ∀ (n : Nat) (k : Int), 0 ≤ k → k ≤ 8 → 8 - k = n → VV E 2 (AS (YM G)) (Qm (YM G) (fun v τ' => v = none ∧ Sv τ τ' ∧ Sc τ τ') E) (Rh (YM G) (svA (up τ 0 0 0 24 (τ 0 0 0 3)) k)) 10 [some (.ref (aM G 0)), some (.int (iN (k)))] [] := by
    intro n
    induction n using Nat.strongRecOn with
    | _ n ih =>
    intro k g0 g1 g2
    refine x_iload_n (pc' := 11) hE dX9_save_10 rfl rfl ?_
    refine x_bipush (pc' := 13) hE dX9_save_11 rfl (by decide +kernel) ?_
    refine x_icmpge (tgt := 34) (pc' := 16) hE dX9_save_13 (by decide) rfl ⟨by omega, by omega⟩ ⟨by omega, by omega⟩ (fun h2 => ?_) (fun h2 => ?_)
    · refine x_iconst (pc' := 35) hE dX9_save_34 rfl ?_
      refine x_istore_n (pc' := 36) hE dX9_save_35 rfl (by decide) rfl rfl ?_
      dsimp only [List.set]
      have e : k = 8 := by omega
      subst e
      rw [← svB_0 (svA (up τ 0 0 0 24 (τ 0 0 0 3)) 8)]
      exact loopB 5 0 (by omega) (by omega) (by omega)
    · refine x_aload_n (pc' := 17) hE dX9_save_16 rfl rfl ?_
      refine gM_25 (pc' := 20) hE hM tF_X9_48 dX9_save_17 rfl ?_
      refine x_iload_n (pc' := 21) hE dX9_save_20 rfl rfl ?_
      refine x_aload_n (pc' := 22) hE dX9_save_21 rfl rfl ?_
      refine gM_4 (pc' := 25) hE hM tF_X9_13 dX9_save_22 rfl ?_
      refine x_iload_n (pc' := 26) hE dX9_save_25 rfl rfl ?_
      refine aM_2 (pc' := 27) hE hM (by omega) (by omega) dX9_save_26 rfl ?_
      refine sM_12 (pc' := 28) hE hM (by omega) (by omega) dX9_save_27 rfl ?_
      refine x_iinc (pc' := 31) hE dX9_save_28 rfl rfl (by decide) rfl rfl ?_
      dsimp only [List.set]
      refine x_goto (tgt := 10) hE dX9_save_31 (by decide) ?_
      rw [svA_s _ g0]
      exact ih (n - 1) (by omega) (k + 1) (by omega) (by omega) (by omega)
  refine x_aload_n (pc' := 1) hE dX9_save_0 rfl rfl ?_
  refine x_aload_n (pc' := 2) hE dX9_save_1 rfl rfl ?_
  refine gM_3 (pc' := 5) hE hM tF_X9_146 dX9_save_2 rfl ?_
  refine pM_24 (pc' := 8) hE hM tF_X9_177 dX9_save_5 rfl ?_
  refine x_iconst (pc' := 9) hE dX9_save_8 rfl ?_
  refine x_istore_n (pc' := 10) hE dX9_save_9 rfl (by decide) rfl rfl ?_
  dsimp only [List.set]
  rw [← svA_0 (up τ 0 0 0 24 (τ 0 0 0 3))]
  exact loopA 8 0 (by omega) (by omega) (by omega)
set_option maxHeartbeats 4000000 in
set_option maxRecDepth 10000 in
theorem c_X9_back (l : Launch) (G : GM) (τ : St) : Ct l (YM G) yX9_back (.code yX9_back cX9_back 2 none) 0 [.ref (aM G 0)] τ (fun v τ' => v = none ∧ ((∀ τ0, Sv τ0 τ → Sv τ0 τ' ∧ Sc τ0 τ') ∧ τ' 0 0 0 29 = τ 0 0 0 29)) := by
  refine Ct_of (own := RX9) [some (.ref (aM G 0)), none] rfl rfl (Nat.le_of_ble_eq_true rfl) rfl ?_
  intro E hE hM hl hR
  have loopB : ∀ (n : Nat) (k : Int), 0 ≤ k → k ≤ 5 → 5 - k = n → VV E 2 (AS (YM G)) (Qm (YM G) (fun v τ' => v = none ∧ ((∀ τ0, Sv τ0 τ → Sv τ0 τ' ∧ Sc τ0 τ') ∧ τ' 0 0 0 29 = τ 0 0 0 29)) E) (Rh (YM G) (bkB (bkA (up τ 0 0 0 3 (τ 0 0 0 24)) 8) k)) 36 [some (.ref (aM G 0)), some (.int (iN (k)))] [] := by
    intro n
    induction n using Nat.strongRecOn with
    | _ n ih =>
    intro k g0 g1 g2
    generalize hS : bkA (up τ 0 0 0 3 (τ 0 0 0 24)) 8 = S at *
    refine x_iload_n (pc' := 37) hE dX9_back_36 rfl rfl ?_
    refine x_iconst (pc' := 38) hE dX9_back_37 rfl ?_
    refine x_icmpge (tgt := 83) (pc' := 41) hE dX9_back_38 (by decide) rfl ⟨by omega, by omega⟩ ⟨by omega, by omega⟩ (fun h1 => ?_) (fun h1 => ?_)
    · refine x_vret hE dX9_back_83 ?_
      have e : k = 5 := by omega
      subst e
      subst hS
      exact ⟨rfl, fun τ0 h => ⟨Sv_bkT h, Sc_bkT h⟩, by simp [bkB, bkA, up]⟩
    · refine x_aload_n (pc' := 42) hE dX9_back_41 rfl rfl ?_
      refine gM_10 (pc' := 45) hE hM tF_X9_25 dX9_back_42 rfl ?_
      refine x_iload_n (pc' := 46) hE dX9_back_45 rfl rfl ?_
      refine x_aload_n (pc' := 47) hE dX9_back_46 rfl rfl ?_
      refine gM_26 (pc' := 50) hE hM tF_X9_51 dX9_back_47 rfl ?_
      refine x_iload_n (pc' := 51) hE dX9_back_50 rfl rfl ?_
      refine aM_13 (pc' := 52) hE hM (by omega) (by omega) dX9_back_51 rfl ?_
      refine sM_6 (pc' := 53) hE hM (by omega) (by omega) dX9_back_52 rfl ?_
      refine x_aload_n (pc' := 54) hE dX9_back_53 rfl rfl ?_
      refine gM_11 (pc' := 57) hE hM tF_X9_28 dX9_back_54 rfl ?_
      refine x_iload_n (pc' := 58) hE dX9_back_57 rfl rfl ?_
      refine x_aload_n (pc' := 59) hE dX9_back_58 rfl rfl ?_
      refine gM_27 (pc' := 62) hE hM tF_X9_54 dX9_back_59 rfl ?_
      refine x_iload_n (pc' := 63) hE dX9_back_62 rfl rfl ?_
      refine aM_14 (pc' := 64) hE hM (by omega) (by omega) dX9_back_63 rfl ?_
      refine sM_7 (pc' := 65) hE hM (by omega) (by omega) dX9_back_64 rfl ?_
      refine x_aload_n (pc' := 66) hE dX9_back_65 rfl rfl ?_
      refine gM_12 (pc' := 69) hE hM tF_X9_31 dX9_back_66 rfl ?_
      refine x_iload_n (pc' := 70) hE dX9_back_69 rfl rfl ?_
      refine x_aload_n (pc' := 71) hE dX9_back_70 rfl rfl ?_
      refine gM_28 (pc' := 74) hE hM tF_X9_57 dX9_back_71 rfl ?_
      refine x_iload_n (pc' := 75) hE dX9_back_74 rfl rfl ?_
      refine aM_15 (pc' := 76) hE hM (by omega) (by omega) dX9_back_75 rfl ?_
      refine sM_8 (pc' := 77) hE hM (by omega) (by omega) dX9_back_76 rfl ?_
      refine x_iinc (pc' := 80) hE dX9_back_77 rfl rfl (by decide) rfl rfl ?_
      dsimp only [List.set]
      refine x_goto (tgt := 36) hE dX9_back_80 (by decide) ?_
      rw [bkB_s S g0]
      exact ih (n - 1) (by omega) (k + 1) (by omega) (by omega) (by omega)
  have loopA : ∀ (n : Nat) (k : Int), 0 ≤ k → k ≤ 8 → 8 - k = n → VV E 2 (AS (YM G)) (Qm (YM G) (fun v τ' => v = none ∧ ((∀ τ0, Sv τ0 τ → Sv τ0 τ' ∧ Sc τ0 τ') ∧ τ' 0 0 0 29 = τ 0 0 0 29)) E) (Rh (YM G) (bkA (up τ 0 0 0 3 (τ 0 0 0 24)) k)) 10 [some (.ref (aM G 0)), some (.int (iN (k)))] [] := by
    intro n
    induction n using Nat.strongRecOn with
    | _ n ih =>
    intro k g0 g1 g2
    refine x_iload_n (pc' := 11) hE dX9_back_10 rfl rfl ?_
    refine x_bipush (pc' := 13) hE dX9_back_11 rfl (by decide +kernel) ?_
    refine x_icmpge (tgt := 34) (pc' := 16) hE dX9_back_13 (by decide) rfl ⟨by omega, by omega⟩ ⟨by omega, by omega⟩ (fun h2 => ?_) (fun h2 => ?_)
    · refine x_iconst (pc' := 35) hE dX9_back_34 rfl ?_
      refine x_istore_n (pc' := 36) hE dX9_back_35 rfl (by decide) rfl rfl ?_
      dsimp only [List.set]
      have e : k = 8 := by omega
      subst e
      rw [← bkB_0 (bkA (up τ 0 0 0 3 (τ 0 0 0 24)) 8)]
      exact loopB 5 0 (by omega) (by omega) (by omega)
    · refine x_aload_n (pc' := 17) hE dX9_back_16 rfl rfl ?_
      refine gM_4 (pc' := 20) hE hM tF_X9_13 dX9_back_17 rfl ?_
      refine x_iload_n (pc' := 21) hE dX9_back_20 rfl rfl ?_
      refine x_aload_n (pc' := 22) hE dX9_back_21 rfl rfl ?_
      refine gM_25 (pc' := 25) hE hM tF_X9_48 dX9_back_22 rfl ?_
      refine x_iload_n (pc' := 26) hE dX9_back_25 rfl rfl ?_
      refine aM_12 (pc' := 27) hE hM (by omega) (by omega) dX9_back_26 rfl ?_
      refine sM_2 (pc' := 28) hE hM (by omega) (by omega) dX9_back_27 rfl ?_
      refine x_iinc (pc' := 31) hE dX9_back_28 rfl rfl (by decide) rfl rfl ?_
      dsimp only [List.set]
      refine x_goto (tgt := 10) hE dX9_back_31 (by decide) ?_
      rw [bkA_s _ g0]
      exact ih (n - 1) (by omega) (k + 1) (by omega) (by omega) (by omega)
  refine x_aload_n (pc' := 1) hE dX9_back_0 rfl rfl ?_
  refine x_aload_n (pc' := 2) hE dX9_back_1 rfl rfl ?_
  refine gM_24 (pc' := 5) hE hM tF_X9_177 dX9_back_2 rfl ?_
  refine pM_3 (pc' := 8) hE hM tF_X9_146 dX9_back_5 rfl ?_
  refine x_iconst (pc' := 9) hE dX9_back_8 rfl ?_
  refine x_istore_n (pc' := 10) hE dX9_back_9 rfl (by decide) rfl rfl ?_
  dsimp only [List.set]
  rw [← bkA_0 (up τ 0 0 0 3 (τ 0 0 0 24))]
  exact loopA 8 0 (by omega) (by omega) (by omega)
set_option maxHeartbeats 4000000 in
set_option maxRecDepth 10000 in
theorem c_X9_lossNow (l : Launch) (G : GM) (τ : St) (D : Int) (hW : WOk D (wv τ)) (hD : D ≤ 900000) (hF : FOk (τ 0 0 0 1) (τ 1 0 0)) (days : Int) (y0 : 0 ≤ days) (y1 : days ≤ 60) : Ct l (YM G) yX9_lossNow (.code yX9_lossNow cX9_lossNow 4 (some .int)) 5 [.ref (aM G 0), .int (iN days)] τ (fun v τ' => v = some (.int (iN (eatN (dN (fv τ) (wv τ) days.toNat) - eatN (wv τ)))) ∧ Sc τ τ') := by
  refine Ct_of (own := RX9) [some (.ref (aM G 0)), some (.int (iN days)), none, none] rfl rfl (Nat.le_of_ble_eq_true rfl) rfl ?_
  intro E hE hM hl hR
  obtain ⟨hnp, hnf, hday, hpp, hff, hcc⟩ := WT_of hW
  have hb0 := eatN_bd hW
  have loop : ∀ (S : St), Sv τ S → wv S = wv τ → fv S = fv τ → FOk (S 0 0 0 1) (S 1 0 0) → ∀ (n : Nat) (k : Nat), (k : Int) ≤ days → days - k = n → VV E 4 (AS (YM G)) (Qm (YM G) (fun v τ' => v = some (.int (iN (eatN (dN (fv τ) (wv τ) days.toNat) - eatN (wv τ)))) ∧ Sc τ τ') E) (Rh (YM G) (dNT S k)) 11 [some (.ref (aM G 0)), some (.int (iN days)), some (.int (iN (eatN (wv τ)))), some (.int (iN ((k : Nat) : Int)))] [] := by
    intro S hs hwS hfS hFS n
    have hWS : WOk D (wv S) := by rw [hwS]; exact hW
    induction n using Nat.strongRecOn with
    | _ n ih =>
    intro k g1 g2
    have hWk := dNT_ok hWS k
    have hFk := dNT_fok hFS k
    have hb1 := eatN_bd hWk
    have hsk := Sv_dNT hs hWS k
    refine x_iload_n (pc' := 12) hE dX9_lossNow_11 rfl rfl ?_
    refine x_iload_n (pc' := 13) hE dX9_lossNow_12 rfl rfl ?_
    refine x_icmpge (tgt := 27) (pc' := 16) hE dX9_lossNow_13 (by decide) rfl ⟨by omega, by omega⟩ ⟨by omega, by omega⟩ (fun h1 => ?_) (fun h1 => ?_)
    · refine x_aload_n (pc' := 28) hE dX9_lossNow_27 rfl rfl ?_
      refine x_cV1 (pc' := 31) hE hM (okM G) hl hR (c_X9_eatenAll l G _ _ (by assumption)) kX9_eatenAll tM_X9_180 (rcvM hM) (by decide) dX9_lossNow_28 rfl rfl (Nat.le_of_ble_eq_true rfl) (fun σ2 e2 => ?_)
      replace e2 := e2.symm
      subst e2
      refine x_iload_n (pc' := 32) hE dX9_lossNow_31 rfl rfl ?_
      refine x_isub (pc' := 33) hE dX9_lossNow_32 rfl ?_
      refine x_istore_n (pc' := 34) hE dX9_lossNow_33 rfl (by decide) rfl rfl ?_
      dsimp only [List.set]
      refine x_aload_n (pc' := 35) hE dX9_lossNow_34 rfl rfl ?_
      refine x_cV0 (pc' := 38) hE hM (okM G) hl hR (c_X9_back l G _) kX9_back tM_X9_186 (rcvM hM) (by decide) dX9_lossNow_35 rfl rfl (Nat.le_of_ble_eq_true rfl) (fun σ3 e3 => ?_)
      have hb := e3.1 τ hsk
      refine x_iload_n (pc' := 39) hE dX9_lossNow_38 rfl rfl ?_
      refine x_iret hE dX9_lossNow_39 ?_
      have e : k = days.toNat := by omega
      subst e
      refine ⟨ri ?_, hb.2⟩
      rw [wv_dNT, hwS, hfS]
    · refine x_aload_n (pc' := 17) hE dX9_lossNow_16 rfl rfl ?_
      refine x_cV1 (pc' := 20) hE hM (okM G) hl hR (c_X9_goDay l G _ _ (by assumption) (by omega) (by assumption)) kX9_goDay tM_X9_173 (rcvM hM) (by decide) dX9_lossNow_17 rfl rfl (Nat.le_of_ble_eq_true rfl) (fun σ4 e4 => ?_)
      replace e4 := e4.symm
      subst e4
      refine x_pop (pc' := 21) hE dX9_lossNow_20 rfl rfl ?_
      refine x_iinc (pc' := 24) hE dX9_lossNow_21 rfl rfl (by decide) rfl rfl ?_
      dsimp only [List.set]
      refine x_goto (tgt := 11) hE dX9_lossNow_24 (by decide) ?_
      exact ih (n - 1) (by omega) (k + 1) (by omega) (by omega)
  refine x_aload_n (pc' := 1) hE dX9_lossNow_0 rfl rfl ?_
  refine x_cV1 (pc' := 4) hE hM (okM G) hl hR (c_X9_eatenAll l G _ _ (by assumption)) kX9_eatenAll tM_X9_180 (rcvM hM) (by decide) dX9_lossNow_1 rfl rfl (Nat.le_of_ble_eq_true rfl) (fun σ5 e5 => ?_)
  replace e5 := e5.symm
  subst e5
  refine x_istore_n (pc' := 5) hE dX9_lossNow_4 rfl (by decide) rfl rfl ?_
  dsimp only [List.set]
  refine x_aload_n (pc' := 6) hE dX9_lossNow_5 rfl rfl ?_
  refine x_cV0 (pc' := 9) hE hM (okM G) hl hR (c_X9_save l G _) kX9_save tM_X9_183 (rcvM hM) (by decide) dX9_lossNow_6 rfl rfl (Nat.le_of_ble_eq_true rfl) (fun σ6 e6 => ?_)
  obtain ⟨hs, hc⟩ := e6
  have hwS : wv σ6 = wv τ := hc.wv
  have hfS : fv σ6 = fv τ := hc.fv
  have hFS := hc.fok hF
  have hWS : WOk D (wv σ6) := by rw [hwS]; exact hW
  generalize σ6 = S at *
  refine x_iconst (pc' := 10) hE dX9_lossNow_9 rfl ?_
  refine x_istore_n (pc' := 11) hE dX9_lossNow_10 rfl (by decide) rfl rfl ?_
  dsimp only [List.set]
  exact loop S hs hwS hfS hFS days.toNat 0 (by omega) (by omega)
set_option maxHeartbeats 4000000 in
set_option maxRecDepth 10000 in
theorem c_X9_fallsIn (l : Launch) (G : GM) (τ : St) (D : Int) (hW : WOk D (wv τ)) (hD : D ≤ 900000) (hF : FOk (τ 0 0 0 1) (τ 1 0 0)) (f most : Int) (f0 : 0 ≤ f) (f1 : f < 5) (y0 : 0 ≤ most) (y1 : most ≤ 60) : Ct l (YM G) yX9_fallsIn (.code yX9_fallsIn cX9_fallsIn 5 (some .int)) 5 [.ref (aM G 0), .int (iN f), .int (iN most)] τ (fun v τ' => v = some (.int (iN (fallK (fv τ) (wv τ) f most.toNat 1))) ∧ (∀ τ0, Sv τ0 τ → Sv τ0 τ')) := by
  refine Ct_of (own := RX9) [some (.ref (aM G 0)), some (.int (iN f)), some (.int (iN most)), none, none] rfl rfl (Nat.le_of_ble_eq_true rfl) rfl ?_
  intro E hE hM hl hR
  obtain ⟨hnp, hnf, hday, hpp, hff, hcc⟩ := WT_of hW
  
  have loop : ∀ (n : Nat) (k : Nat), (k : Int) ≤ most → most - k = n → fallK (fv τ) (wv τ) f most.toNat 1 = fallK (fv τ) (wv (dNT τ k)) f (most.toNat - k) (k + 1) → VV E 5 (AS (YM G)) (Qm (YM G) (fun v τ' => v = some (.int (iN (fallK (fv τ) (wv τ) f most.toNat 1))) ∧ (∀ τ0, Sv τ0 τ → Sv τ0 τ')) E) (Rh (YM G) (dNT τ k)) 5 [some (.ref (aM G 0)), some (.int (iN f)), some (.int (iN most)), some (.int (iN (-1))), some (.int (iN ((k : Nat) + 1)))] [] := by
    intro n
    induction n using Nat.strongRecOn with
    | _ n ih =>
    intro k g1 g2 g3
    have hWk := dNT_ok hW k
    have hFk := dNT_fok hF k
    have hWk1 := goT_ok hWk
    obtain ⟨-, -, -, -, hff1, -⟩ := WT_of hWk1
    have q1 := hff1 f f0 f1
    have e6 : wv (goT (dNT τ k)) = goD (fv τ) (wv (dNT τ k)) := by rw [wv_goT, fv_dNT]
    have e7 : goD (fv τ) (wv (dNT τ k)) 6 f = goT (dNT τ k) 8 0 0 f := by rw [← e6]; rfl
    refine x_iload (pc' := 7) hE dX9_fallsIn_5 rfl rfl ?_
    refine x_iload_n (pc' := 8) hE dX9_fallsIn_7 rfl rfl ?_
    refine x_icmpgt (tgt := 44) (pc' := 11) hE dX9_fallsIn_8 (by decide) rfl ⟨by omega, by omega⟩ ⟨by omega, by omega⟩ (fun h1 => ?_) (fun h1 => ?_)
    · refine x_iload_n (pc' := 45) hE dX9_fallsIn_44 rfl rfl ?_
      refine x_iret hE dX9_fallsIn_45 ?_
      have e8 : most.toNat - k = 0 := by omega
      refine ⟨ri ?_, fun τ0 h => Sv_dNT h hW k⟩
      rw [g3, e8]
      rfl
    · refine x_iload_n (pc' := 12) hE dX9_fallsIn_11 rfl rfl ?_
      refine x_iconst (pc' := 13) hE dX9_fallsIn_12 rfl ?_
      refine x_icmpne (tgt := 44) (pc' := 16) hE dX9_fallsIn_13 (by decide) rfl ⟨by omega, by omega⟩ ⟨by omega, by omega⟩ (fun h2 => ?_) (fun h2 => ?_)
      · refine x_iload_n (pc' := 45) hE dX9_fallsIn_44 rfl rfl ?_
        refine x_iret hE dX9_fallsIn_45 ?_
        have e8 : most.toNat - k = 0 := by omega
        refine ⟨ri ?_, fun τ0 h => Sv_dNT h hW k⟩
        rw [g3, e8]
        rfl
      · refine x_aload_n (pc' := 17) hE dX9_fallsIn_16 rfl rfl ?_
        refine x_cV1 (pc' := 20) hE hM (okM G) hl hR (c_X9_goDay l G _ _ (by assumption) (by omega) (by assumption)) kX9_goDay tM_X9_173 (rcvM hM) (by decide) dX9_fallsIn_17 rfl rfl (Nat.le_of_ble_eq_true rfl) (fun σ3 e3 => ?_)
        replace e3 := e3.symm
        subst e3
        refine x_pop (pc' := 21) hE dX9_fallsIn_20 rfl rfl ?_
        refine x_aload_n (pc' := 22) hE dX9_fallsIn_21 rfl rfl ?_
        refine gM_12 (pc' := 25) hE hM tF_X9_31 dX9_fallsIn_22 rfl ?_
        refine x_iload_n (pc' := 26) hE dX9_fallsIn_25 rfl rfl ?_
        refine aM_8 (pc' := 27) hE hM (by omega) (by omega) dX9_fallsIn_26 rfl ?_
        refine x_iconst (pc' := 28) hE dX9_fallsIn_27 rfl ?_
        refine x_icmpne (tgt := 35) (pc' := 31) hE dX9_fallsIn_28 (by decide) rfl ⟨by omega, by omega⟩ ⟨by omega, by omega⟩ (fun h4 => ?_) (fun h4 => ?_)
        · refine x_iload (pc' := 37) hE dX9_fallsIn_35 rfl rfl ?_
          refine x_istore_n (pc' := 38) hE dX9_fallsIn_37 rfl (by decide) rfl rfl ?_
          dsimp only [List.set]
          refine x_iinc (pc' := 41) hE dX9_fallsIn_38 rfl rfl (by decide) rfl rfl ?_
          dsimp only [List.set]
          refine x_goto (tgt := 5) hE dX9_fallsIn_41 (by decide) ?_
          have e8 : most.toNat - k = (most.toNat - (k + 1)) + 1 := by omega
          have e9 : fallK (fv τ) (wv τ) f most.toNat 1 = (k : Int) + 1 := by rw [g3, e8, fallK, if_pos (by rw [e7]; omega)]
          refine x_iload (pc' := 7) hE dX9_fallsIn_5 rfl rfl ?_
          refine x_iload_n (pc' := 8) hE dX9_fallsIn_7 rfl rfl ?_
          refine x_icmpgt (tgt := 44) (pc' := 11) hE dX9_fallsIn_8 (by decide) rfl ⟨by omega, by omega⟩ ⟨by omega, by omega⟩ (fun h5 => ?_) (fun h5 => ?_)
          · refine x_iload_n (pc' := 45) hE dX9_fallsIn_44 rfl rfl ?_
            refine x_iret hE dX9_fallsIn_45 ?_
            exact ⟨ri e9.symm, fun τ0 h => Sv_goT (Sv_dNT h hW k) hWk⟩
          · refine x_iload_n (pc' := 12) hE dX9_fallsIn_11 rfl rfl ?_
            refine x_iconst (pc' := 13) hE dX9_fallsIn_12 rfl ?_
            refine x_icmpne (tgt := 44) (pc' := 16) hE dX9_fallsIn_13 (by decide) rfl ⟨by omega, by omega⟩ ⟨by omega, by omega⟩ (fun h6 => ?_) (fun h6 => ?_)
            · refine x_iload_n (pc' := 45) hE dX9_fallsIn_44 rfl rfl ?_
              refine x_iret hE dX9_fallsIn_45 ?_
              exact ⟨ri e9.symm, fun τ0 h => Sv_goT (Sv_dNT h hW k) hWk⟩
            · exfalso; omega
        · refine x_iconst (pc' := 32) hE dX9_fallsIn_31 rfl ?_
          refine x_goto (tgt := 37) hE dX9_fallsIn_32 (by decide) ?_
          refine x_istore_n (pc' := 38) hE dX9_fallsIn_37 rfl (by decide) rfl rfl ?_
          dsimp only [List.set]
          refine x_iinc (pc' := 41) hE dX9_fallsIn_38 rfl rfl (by decide) rfl rfl ?_
          dsimp only [List.set]
          refine x_goto (tgt := 5) hE dX9_fallsIn_41 (by decide) ?_
          have e8 : most.toNat - k = (most.toNat - (k + 1)) + 1 := by omega
          refine ih (n - 1) (by omega) (k + 1) (by omega) (by omega) ?_
          rw [g3, e8, fallK, if_neg (by rw [e7]; omega)]
          rw [← e6]
          rfl
  refine x_iconst (pc' := 1) hE dX9_fallsIn_0 rfl ?_
  refine x_istore_n (pc' := 2) hE dX9_fallsIn_1 rfl (by decide) rfl rfl ?_
  dsimp only [List.set]
  refine x_iconst (pc' := 3) hE dX9_fallsIn_2 rfl ?_
  refine x_istore (pc' := 5) hE dX9_fallsIn_3 rfl (by decide) rfl rfl ?_
  dsimp only [List.set]
  exact loop most.toNat 0 (by omega) (by omega) rfl
set_option maxHeartbeats 4000000 in
set_option maxRecDepth 10000 in
theorem c_X9_fallsNow (l : Launch) (G : GM) (τ : St) (D : Int) (hW : WOk D (wv τ)) (hD : D ≤ 900000) (hF : FOk (τ 0 0 0 1) (τ 1 0 0)) (f : Int) (f0 : 0 ≤ f) (f1 : f < 5) : Ct l (YM G) yX9_fallsNow (.code yX9_fallsNow cX9_fallsNow 3 (some .int)) 6 [.ref (aM G 0), .int (iN f)] τ (fun v τ' => v = some (.int (iN (fallK (fv τ) (wv τ) f 60 1))) ∧ Sc τ τ') := by
  refine Ct_of (own := RX9) [some (.ref (aM G 0)), some (.int (iN f)), none] rfl rfl (Nat.le_of_ble_eq_true rfl) rfl ?_
  intro E hE hM hl hR
  refine x_aload_n (pc' := 1) hE dX9_fallsNow_0 rfl rfl ?_
  refine x_cV0 (pc' := 4) hE hM (okM G) hl hR (c_X9_save l G _) kX9_save tM_X9_183 (rcvM hM) (by decide) dX9_fallsNow_1 rfl rfl (Nat.le_of_ble_eq_true rfl) (fun σ1 e1 => ?_)
  obtain ⟨hs, hc⟩ := e1
  have hwS : wv σ1 = wv τ := hc.wv
  have hfS : fv σ1 = fv τ := hc.fv
  have hFS := hc.fok hF
  have hWS : WOk D (wv σ1) := by rw [hwS]; exact hW
  generalize σ1 = S at *
  refine x_aload_n (pc' := 5) hE dX9_fallsNow_4 rfl rfl ?_
  refine x_iload_n (pc' := 6) hE dX9_fallsNow_5 rfl rfl ?_
  refine x_bipush (pc' := 8) hE dX9_fallsNow_6 rfl (by decide +kernel) ?_
  refine x_cV1 (pc' := 11) hE hM (okM G) hl hR (c_X9_fallsIn l G _ _ (by assumption) (by omega) (by assumption) _ _ (by omega) (by omega) (by omega) (by omega)) kX9_fallsIn tM_X9_192 (rcvM hM) (by decide) dX9_fallsNow_8 rfl rfl (Nat.le_of_ble_eq_true rfl) (fun σ2 e2 => ?_)
  have hfi := e2 τ (by assumption)
  refine x_istore_n (pc' := 12) hE dX9_fallsNow_11 rfl (by decide) rfl rfl ?_
  dsimp only [List.set]
  refine x_aload_n (pc' := 13) hE dX9_fallsNow_12 rfl rfl ?_
  refine x_cV0 (pc' := 16) hE hM (okM G) hl hR (c_X9_back l G _) kX9_back tM_X9_186 (rcvM hM) (by decide) dX9_fallsNow_13 rfl rfl (Nat.le_of_ble_eq_true rfl) (fun σ3 e3 => ?_)
  have hb := e3.1 τ hfi
  refine x_iload_n (pc' := 17) hE dX9_fallsNow_16 rfl rfl ?_
  refine x_iret hE dX9_fallsNow_17 ?_
  refine ⟨ri ?_, hb.2⟩
  rw [hwS, hfS]
  rfl
set_option maxHeartbeats 4000000 in
set_option maxRecDepth 10000 in
theorem c_X9_safeNow (l : Launch) (G : GM) (τ : St) (D : Int) (hW : WOk D (wv τ)) (hD : D ≤ 900000) (hF : FOk (τ 0 0 0 1) (τ 1 0 0)) (f days : Int) (f0 : 0 ≤ f) (f1 : f < 5) (y0 : 1 ≤ days) (y1 : days ≤ 30) : Ct l (YM G) yX9_safeNow (.code yX9_safeNow cX9_safeNow 5 (some .int)) 6 [.ref (aM G 0), .int (iN f), .int (iN days)] τ (fun v τ' => v = some (.int (iN (safeN (fv τ) (wv τ) f days.toNat))) ∧ Sc τ τ') := by
  refine Ct_of (own := RX9) [some (.ref (aM G 0)), some (.int (iN f)), some (.int (iN days)), none, none] rfl rfl (Nat.le_of_ble_eq_true rfl) rfl ?_
  intro E hE hM hl hR
  have loop : ∀ (n : Nat) (k : Int) (S : St), Sv τ S → Sc τ S → 0 ≤ k → k ≤ 10 → 10 - k = n → safeN (fv τ) (wv τ) f days.toNat = lst (fun n => decide (fallK (fv τ) (wu (wv τ) 4 f n) f days.toNat 1 = -1)) (10 - k).toNat k → VV E 5 (AS (YM G)) (Qm (YM G) (fun v τ' => v = some (.int (iN (safeN (fv τ) (wv τ) f days.toNat))) ∧ Sc τ τ') E) (Rh (YM G) (S)) 6 [some (.ref (aM G 0)), some (.int (iN f)), some (.int (iN days)), some (.int (iN (k))), none] [] := by
    intro n
    induction n using Nat.strongRecOn with
    | _ n ih =>
    intro k S hs hc g0 g1 g2 g3
    have hwS : wv S = wv τ := hc.wv
    have hfS : fv S = fv τ := hc.fv
    have hFS := hc.fok hF
    have hWS : WOk D (wv S) := by rw [hwS]; exact hW
    refine x_iload_n (pc' := 7) hE dX9_safeNow_6 rfl rfl ?_
    refine x_bipush (pc' := 9) hE dX9_safeNow_7 rfl (by decide +kernel) ?_
    refine x_icmpge (tgt := 53) (pc' := 12) hE dX9_safeNow_9 (by decide) rfl ⟨by omega, by omega⟩ ⟨by omega, by omega⟩ (fun h1 => ?_) (fun h1 => ?_)
    · refine x_iconst (pc' := 54) hE dX9_safeNow_53 rfl ?_
      refine x_iret hE dX9_safeNow_54 ?_
      refine ⟨ri ?_, hc⟩
      rw [g3, show (10 - k).toNat = 0 by omega]
      rfl
    · refine x_aload_n (pc' := 13) hE dX9_safeNow_12 rfl rfl ?_
      refine gM_10 (pc' := 16) hE hM tF_X9_25 dX9_safeNow_13 rfl ?_
      refine x_iload_n (pc' := 17) hE dX9_safeNow_16 rfl rfl ?_
      refine x_iload_n (pc' := 18) hE dX9_safeNow_17 rfl rfl ?_
      refine sM_6 (pc' := 19) hE hM (by omega) (by omega) dX9_safeNow_18 rfl ?_
      have hs1 : Sv τ (up S 6 0 0 f k) := Sv_up hs (by omega)
      have hw1 : wv (up S 6 0 0 f k) = wu (wv τ) 4 f k := by rw [wv_up6, hwS]
      have hf1 : fv (up S 6 0 0 f k) = fv τ := by rw [fv_up _ _ _ (by decide) (by decide), hfS]
      have hF1 := fok_up (k := 6) f k (by decide) (by decide) hFS
      have hW1 : WOk D (wv (up S 6 0 0 f k)) := by rw [hw1]; exact wu4_ok hW (by omega) (by omega)
      have hb9 := fallK_bd (fv τ) f days.toNat (wu (wv τ) 4 f k) 1 (by omega)
      have e10 : (10 - k).toNat = (10 - (k + 1)).toNat + 1 := by omega
      generalize hS1 : up S 6 0 0 f k = S1 at *
      refine x_aload_n (pc' := 20) hE dX9_safeNow_19 rfl rfl ?_
      refine x_iload_n (pc' := 21) hE dX9_safeNow_20 rfl rfl ?_
      refine x_iload_n (pc' := 22) hE dX9_safeNow_21 rfl rfl ?_
      refine x_cV1 (pc' := 25) hE hM (okM G) hl hR (c_X9_fallsIn l G _ _ (by assumption) (by omega) (by assumption) _ _ (by omega) (by omega) (by omega) (by omega)) kX9_fallsIn tM_X9_192 (rcvM hM) (by decide) dX9_safeNow_22 rfl rfl (Nat.le_of_ble_eq_true rfl) (fun σ2 e2 => ?_)
      have hfi := e2 τ hs1
      rw [hw1, hf1]
      refine x_iconst (pc' := 26) hE dX9_safeNow_25 rfl ?_
      refine x_icmpne (tgt := 33) (pc' := 29) hE dX9_safeNow_26 (by decide) rfl ⟨by omega, by omega⟩ ⟨by omega, by omega⟩ (fun h3 => ?_) (fun h3 => ?_)
      · refine x_iconst (pc' := 34) hE dX9_safeNow_33 rfl ?_
        refine x_istore (pc' := 36) hE dX9_safeNow_34 rfl (by decide) rfl rfl ?_
        dsimp only [List.set]
        refine x_aload_n (pc' := 37) hE dX9_safeNow_36 rfl rfl ?_
        refine x_cV0 (pc' := 40) hE hM (okM G) hl hR (c_X9_back l G _) kX9_back tM_X9_186 (rcvM hM) (by decide) dX9_safeNow_37 rfl rfl (Nat.le_of_ble_eq_true rfl) (fun σ4 e4 => ?_)
        have hb := e4.1 τ hfi
        refine x_iload (pc' := 42) hE dX9_safeNow_40 rfl rfl ?_
        refine x_ifeq (tgt := 47) (pc' := 45) hE dX9_safeNow_42 (by decide) rfl ⟨by omega, by omega⟩ (fun h5 => ?_) (fun h5 => ?_)
        · refine x_iinc (pc' := 50) hE dX9_safeNow_47 rfl rfl (by decide) rfl rfl ?_
          dsimp only [List.set]
          refine x_goto (tgt := 6) hE dX9_safeNow_50 (by decide) ?_
          refine x_lvf (lv' := [some (.ref (aM G 0)), some (.int (iN f)), some (.int (iN days)), some (.int (iN (k + 1))), none]) ⟨Or.inr rfl, Or.inr rfl, Or.inr rfl, Or.inr rfl, Or.inl rfl, trivial⟩ (ih (n - 1) (by omega) (k + 1) _ hb.1 hb.2 (by omega) (by omega) (by omega) ?_)
          rw [g3, e10, lst_s, if_neg (by simp; omega)]
        · exact absurd h5 (by decide)
      · refine x_iconst (pc' := 30) hE dX9_safeNow_29 rfl ?_
        refine x_goto (tgt := 34) hE dX9_safeNow_30 (by decide) ?_
        refine x_istore (pc' := 36) hE dX9_safeNow_34 rfl (by decide) rfl rfl ?_
        dsimp only [List.set]
        refine x_aload_n (pc' := 37) hE dX9_safeNow_36 rfl rfl ?_
        refine x_cV0 (pc' := 40) hE hM (okM G) hl hR (c_X9_back l G _) kX9_back tM_X9_186 (rcvM hM) (by decide) dX9_safeNow_37 rfl rfl (Nat.le_of_ble_eq_true rfl) (fun σ6 e6 => ?_)
        have hb := e6.1 τ hfi
        refine x_iload (pc' := 42) hE dX9_safeNow_40 rfl rfl ?_
        refine x_ifeq (tgt := 47) (pc' := 45) hE dX9_safeNow_42 (by decide) rfl ⟨by omega, by omega⟩ (fun h7 => ?_) (fun h7 => ?_)
        · exact absurd h7 (by decide)
        · refine x_iload_n (pc' := 46) hE dX9_safeNow_45 rfl rfl ?_
          refine x_iret hE dX9_safeNow_46 ?_
          refine ⟨ri ?_, hb.2⟩
          rw [g3, e10, lst_s, if_pos (by simp; omega)]
  refine x_aload_n (pc' := 1) hE dX9_safeNow_0 rfl rfl ?_
  refine x_cV0 (pc' := 4) hE hM (okM G) hl hR (c_X9_save l G _) kX9_save tM_X9_183 (rcvM hM) (by decide) dX9_safeNow_1 rfl rfl (Nat.le_of_ble_eq_true rfl) (fun σ8 e8 => ?_)
  obtain ⟨hs, hc⟩ := e8
  generalize σ8 = S at *
  refine x_iconst (pc' := 5) hE dX9_safeNow_4 rfl ?_
  refine x_istore_n (pc' := 6) hE dX9_safeNow_5 rfl (by decide) rfl rfl ?_
  dsimp only [List.set]
  exact loop 10 0 S hs hc (by omega) (by omega) (by omega) rfl
