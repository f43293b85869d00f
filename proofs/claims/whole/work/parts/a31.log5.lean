section
variable {K : KT} {P : PT} {J I : IT}
/-- the log at a level: its names -/
def LgV (K : KT) (P : PT) (g : Nat) : Prop := LgW K P 1192 (12000 + g) (512 * 2 ^ g) 1196 1197 ∧ (∀ j, g < j → j < 20 → K (12000 + j) = none) ∧ g < 10
def nLg (q : Nat) : Prop := q = 1192 ∨ (12000 ≤ q ∧ q < 12020)
/-- a number of a record -/
def lgF (I : IT) (g : Nat) (r f : Int) : Int := I (12000 + g) (r * 8 + f)
def LgN (I : IT) (g n : Nat) : Prop := I 1192 0 = n ∧ n * 8 ≤ 512 * 2 ^ g
def lgP (g : Nat) : Nat := 1024 * 2 ^ g
theorem lgP_up (g : Nat) : lgP g + 2 * (512 * 2 ^ g) = lgP (g + 1) := by unfold lgP; rw [Nat.pow_succ]; omega
/-- a record more -/
def LgA (I I' : IT) (g g' n : Nat) (k i t y : Int) (row : Int → Int) : Prop := (∀ (r : Nat) f, r < n → 0 ≤ f → f < 8 → lgF I' g' r f = lgF I g r f) ∧ (lgF I' g' n 0 = k ∧ lgF I' g' n 1 = i ∧ lgF I' g' n 2 = t ∧ lgF I' g' n 3 = y) ∧ (∀ c, 0 ≤ c → c < 4 → lgF I' g' n (4 + c) = row c) ∧ (∀ k, k ≠ 0 → I' 1192 k = I 1192 k)
theorem lgAdd_o {d : Nat} {k i t y : Int} {o : Nat} (h1 : o ≠ 1192) (h2 : o ≠ d) : lgAdd I 1192 d k i t y o = I o := by
  funext z
  unfold lgAdd
  rw [up2_o _ _ _ _ h1]
  exact (if_neg (fun q => h2 q.1)).trans ((up2_o _ _ _ _ h2).trans ((up2_o _ _ _ _ h2).trans ((up2_o _ _ _ _ h2).trans (up2_o _ _ _ _ h2))))
theorem lgAdd_0 {d : Nat} {k i t y : Int} : lgAdd I 1192 d k i t y 1192 0 = I 1192 0 + 1 := up2_eq _ _ _ _
theorem lgAdd_k {d : Nat} {k i t y z : Int} (hd : d ≠ 1192) (hz : z ≠ 0) : lgAdd I 1192 d k i t y 1192 z = I 1192 z := by
  unfold lgAdd
  rw [up2_k _ _ _ _ hz]
  exact (if_neg (fun q => hd q.1.symm)).trans ((up2_o _ _ _ _ hd.symm).trans ((up2_o _ _ _ _ hd.symm).trans ((up2_o _ _ _ _ hd.symm).trans (up2_o _ _ _ _ hd.symm))))
theorem lgAdd_d {d : Nat} {k i t y z : Int} (hd : d ≠ 1192) : lgAdd I 1192 d k i t y d z = if I 1192 0 * 8 + 4 ≤ z ∧ z < I 1192 0 * 8 + 8 then -2147483648 else if z = I 1192 0 * 8 + 3 then y else if z = I 1192 0 * 8 + 2 then t else if z = I 1192 0 * 8 + 1 then i else if z = I 1192 0 * 8 then k else I d z := by
  unfold lgAdd
  rw [up2_o _ _ _ _ hd]
  unfold filI up2
  simp only [true_and]
theorem lgAdd_A {I I0 : IT} {g g' n : Nat} {k i t y : Int} (hn : I0 1192 0 = n) (h0 : ∀ z : Int, 0 ≤ z → z < n * 8 → I0 (12000 + g') z = I (12000 + g) z) (h1 : I0 1192 = I 1192) : LgA I (lgAdd I0 1192 (12000 + g') k i t y) g g' n k i t y (fun _ => -2147483648) := by
  have hd : 12000 + g' ≠ 1192 := by omega
  refine ⟨fun r f hr f0 f1 => ?_, ⟨?_, ?_, ?_, ?_⟩, fun c c0 c1 => ?_, fun z hz => (lgAdd_k hd hz).trans (congrFun h1 z)⟩
  · unfold lgF
    rw [lgAdd_d hd, hn, if_neg (by omega), if_neg (by omega), if_neg (by omega), if_neg (by omega), if_neg (by omega)]
    exact h0 _ (by omega) (by omega)
  · unfold lgF
    rw [lgAdd_d hd, hn, if_neg (by omega), if_neg (by omega), if_neg (by omega), if_neg (by omega), if_pos (by omega)]
  · unfold lgF
    rw [lgAdd_d hd, hn, if_neg (by omega), if_neg (by omega), if_neg (by omega), if_pos (by omega)]
  · unfold lgF
    rw [lgAdd_d hd, hn, if_neg (by omega), if_neg (by omega), if_pos (by omega)]
  · unfold lgF
    rw [lgAdd_d hd, hn, if_neg (by omega), if_pos (by omega)]
  · unfold lgF
    rw [lgAdd_d hd, hn, if_pos (by omega)]
theorem lg_big {g : Nat} (hg : g < 10) : 512 ≤ 512 * 2 ^ g ∧ 512 * 2 ^ g ≤ 262144 := by
  have h1 : (2 : Nat) ^ g ≤ 2 ^ 9 := Nat.pow_le_pow_right (by decide) (by omega)
  have h2 : 1 ≤ (2 : Nat) ^ g := Nat.one_le_two_pow
  omega
theorem log_add {g n : Nat} {k i t y : Int} (hV : LgV K P g) (hN : LgN I g n) (hn : n < 16384) : ∃ (g' c m : Nat) (K' : KT) (P' : PT) (I' : IT), (LgV K' P' g' ∧ LgN I' g' (n + 1)) ∧ Fr nLg K P I K' P' I' ∧ (c + g = g' ∧ m + lgP g = lgP g') ∧ LgA I I' g g' n k i t y (fun _ => -2147483648) ∧
    Sp m_Log_add false ({ frames := 2, cells := c, slots := m, locals := 90 } : Room) (ex K' P' J I' (.inl none)) K P J I [vR (some 1192), vI k, vI i, vI t, vI y] := by
  obtain ⟨hG, hf, hg⟩ := hV
  obtain ⟨h0, h8⟩ := hN
  have hb := lg_big hg
  have hd : ∀ z, 12000 + z ≠ 1192 := fun z => by omega
  by_cases hfull : n * 8 + 8 ≤ 512 * 2 ^ g
  · have sp := sp_Log_add0 (J := J) (I := I) (k := k) (i := i) (t := t) (y := y) hG (by omega) (by omega)
    exact ⟨g, 0, 0, K, P, lgAdd I 1192 (12000 + g) k i t y, ⟨⟨hG, hf, hg⟩, lgAdd_0.trans (by omega), by omega⟩, fun o ho => ⟨rfl, rfl, lgAdd_o (fun z => ho (Or.inl z)) (fun z => ho (Or.inr (by omega)))⟩, ⟨by omega, by omega⟩, lgAdd_A h0 (fun _ _ _ => rfl) rfl, sp⟩
  · have g9 : g < 8 := by
      refine Classical.byContradiction (fun q => ?_)
      have : (2 : Nat) ^ 8 ≤ 2 ^ g := Nat.pow_le_pow_right (by decide) (by omega)
      omega
    have ho := hf (g + 1) (by omega) (by omega)
    have sp := sp_Log_add1 (J := J) (I := I) (o := 12000 + (g + 1)) (k := k) (i := i) (t := t) (y := y) hG (by omega) (by omega) (by omega) ho
    have e2 : 2 * (512 * 2 ^ g) = 512 * 2 ^ (g + 1) := by rw [Nat.pow_succ]; omega
    rw [e2] at sp
    have kk : ∀ {q : Nat} {v : Nat × Nat}, K q = some v → upK K (12000 + (g + 1)) (100, 512 * 2 ^ (g + 1)) q = some v := fun h => (upK_o _ _ (fun z => by rw [z, ho] at h; cases h)).trans h
    have e1 : cpyI I (12000 + g) 0 (12000 + (g + 1)) 0 ((512 * 2 ^ g : Nat) : Int) 1192 = I 1192 := funext (fun z => if_neg (fun q => hd _ q.1.symm))
    refine ⟨g + 1, 1, 512 * 2 ^ (g + 1), _, _, lgAdd (cpyI I (12000 + g) 0 (12000 + (g + 1)) 0 ((512 * 2 ^ g : Nat) : Int)) 1192 (12000 + (g + 1)) k i t y, ⟨⟨⟨kk hG.1, ⟨up2_eq _ _ _ _, upK_eq _ _ _⟩, ⟨(up2_k _ _ _ _ (by decide)).trans hG.2.2.1.1, kk hG.2.2.1.2⟩, (up2_k _ _ _ _ (by decide)).trans hG.2.2.2.1, kk hG.2.2.2.2⟩, fun j j1 j2 => (upK_o _ _ (by omega)).trans (hf j (by omega) j2), by omega⟩, lgAdd_0.trans (by rw [e1]; omega), by omega⟩, fun o ho2 => ⟨upK_o _ _ (fun z => ho2 (Or.inr (by omega))), funext (fun z => up2_o _ _ _ _ (fun q => ho2 (Or.inl q))), (lgAdd_o (fun z => ho2 (Or.inl z)) (fun z => ho2 (Or.inr (by omega)))).trans (funext (fun z => if_neg (fun q => ho2 (Or.inr (by have := q.1; omega)))))⟩, ⟨by omega, ?_⟩, lgAdd_A (by rw [e1]; exact h0) (fun z z0 z1 => ?_) e1, sp⟩
    · have := lgP_up g; omega
    · refine (if_pos ⟨rfl, z0, by omega⟩).trans ?_
      rw [show 0 + (z - 0) = z by omega]
end
