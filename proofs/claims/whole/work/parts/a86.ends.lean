/-! an attempt: the relation behind each of its ends -/
section
variable {I S W I1 : IT} {n N g g' : Nat} {lv mv : Nat → Nat} {q : Int}
theorem ER.wf (h : ER I W n N g lv mv q) : ∀ j : Nat, j < n → W 225 j = -1 ∨ (0 ≤ W 225 j ∧ W 225 j < n) := fun j hj => by
  obtain ⟨-, a, b⟩ := h.ph j hj
  by_cases e : W 221 j = 1
  · exact Or.inr (a e)
  · exact Or.inl (b e)
/-- an outcome alone -/
theorem out_ref {i : Nat} {V : Int} (h : ER I W n N g lv mv q) (hl : ∀ j, j < n → lv j < 15 ∧ mv j < 15) (hg : g < 10) (hi : i < n) (h0 : W 221 i = 0) : ER (up2 I (tX i) 5 V) (up2 W 222 i V) n N g lv mv q := by
  have t := (h.tx i hi).1
  have e21 : up2 W 222 i V 221 = W 221 := funext (fun k => up2_o _ _ _ _ (by decide))
  have e25 : up2 W 222 i V 225 = W 225 := funext (fun k => up2_o _ _ _ _ (by decide))
  refine h.sca hl hg ⟨hi, by omega⟩ (fun o k ho => if_neg (fun z => ho ⟨Or.inr (Or.inl z.1), z.2⟩)) (fun o k ho => if_neg (fun z => ho ⟨z.1, Or.inr (Or.inl z.2)⟩)) ?_ ?_ ?_ (by rw [e21]; omega) (by rw [e21, e25]; exact (h.ph i hi).2) (h.ac.cut (fun y => Or.inl (by rw [e25]))) (fun z => by rw [e21] at z; omega)
  · rw [e21, up2_k _ _ _ _ (by decide)]; exact t.2.2.2.1
  · rw [up2_eq, up2_eq]
  · rw [e25, up2_k _ _ _ _ (by decide)]; exact t.2.2.2.2.2
/-- it waits -/
theorem out_wait {i : Nat} {b : Int} (h : ER I W n N g lv mv q) (hl : ∀ j, j < n → lv j < 15 ∧ mv j < 15) (hg : g < 10) (hi : i < n) (h0 : W 221 i = 0) (hb : 0 ≤ b ∧ b < n) (hc : mCh W i 60 b ≠ i) (hpd : PdE I W i ∧ ∀ t y, YS W i t y → mRead W i t y) :
    ER (up2 (up2 (up2 I (tX i) 4 1) (tX i) 6 b) (tX i) 5 1) (up2 (up2 (up2 W 221 i 1) 225 i b) 222 i 1) n N g lv mv q := by
  have n60 := h.cnt.2.2.1
  have e21 : up2 (up2 (up2 W 221 i 1) 225 i b) 222 i 1 221 i = 1 := by rw [up2_o _ _ _ _ (by decide), up2_o _ _ _ _ (by decide), up2_eq]
  have e25 : up2 (up2 (up2 W 221 i 1) 225 i b) 222 i 1 225 i = b := by rw [up2_o _ _ _ _ (by decide), up2_eq]
  refine h.sca hl hg ⟨hi, by omega⟩ (fun o k ho => ?_) (fun o k ho => ?_) ?_ ?_ ?_ (by rw [e21]; omega) (by rw [e21, e25]; exact ⟨fun _ => hb, fun z => absurd rfl z⟩) (h.ac.add (i := i) (b := b) (fun y hy => ?_) e25 (chain_off n60 h.wf h.ac ⟨by omega, by omega⟩ hb hc)) (fun _ => hpd)
  · exact (if_neg (fun z => ho ⟨Or.inr (Or.inl z.1), z.2⟩)).trans ((if_neg (fun z => ho ⟨Or.inr (Or.inr z.1), z.2⟩)).trans (if_neg (fun z => ho ⟨Or.inl z.1, z.2⟩)))
  · exact (if_neg (fun z => ho ⟨z.1, Or.inr (Or.inl z.2)⟩)).trans ((if_neg (fun z => ho ⟨z.1, Or.inr (Or.inr z.2)⟩)).trans (if_neg (fun z => ho ⟨z.1, Or.inl z.2⟩)))
  · rw [e21, up2_k _ _ _ _ (by decide), up2_k _ _ _ _ (by decide), up2_eq]
  · rw [up2_eq, up2_eq]
  · rw [e25, up2_k _ _ _ _ (by decide), up2_eq]
  · rw [up2_o _ _ _ _ (by decide), up2_k _ _ _ _ hy, up2_o _ _ _ _ (by decide)]
theorem unM_len {i : Int} : ∀ k : Nat, (unM S i k).length ≤ k := by
  intro k
  induction k with
  | zero => exact Nat.le_refl _
  | succ k ih =>
    by_cases c : S 246 k = 0 ∧ S 247 k = i
    · have e2 : unM S i (k + 1) = (2, i, S 248 k, S 249 k) :: unM S i k := if_pos c
      rw [e2, List.length_cons]; omega
    · have e2 : unM S i (k + 1) = unM S i k := if_neg c
      rw [e2]; omega
/-- it is rolled back -/
theorem out_abort {i : Nat} {V : Int} {K K' : KT} {P P' : PT} (h : ER I W n N g lv mv q) (hl : ∀ j, j < n → lv j < 15 ∧ mv j < 15) (hg : g < 10 ∧ g' < 10) (hi : i < n) (ho : W 221 i < 2) (h16 : N + (unM W i N).length < 16384)
    (hX : LgX I I1 g g' N (undL I g i N 0 ++ [rcN 3 i (-2147483648) (-2147483648)])) (hL : LgN I1 g' (N + (undL I g i N 0).length + 1)) (hF : Fr nLg K P I K' P' I1) :
    ER (up2 (rbI I1 i (mv i)) (tX i) 5 V) (up2 (mAborts W i) 222 i V) n (N + (unM W i N).length + 1) g' lv mv q := by
  have h44 := h.cnt.2.1
  have n60 := h.cnt.2.2.1
  have x0 : 2000 ≤ tX i ∧ tX i + 128 ≤ 10000 := by unfold tX; omega
  have eL := undL_eq (I := I) (S := W) (g := g) (i := (i : Int)) h.lg.2 N (Nat.le_refl _)
  have lenL : (undL I g i N 0).length = (unM W i N).length := by rw [eL, List.length_map]
  obtain ⟨T, hT, eA, -⟩ := mAborts_X (S := W) (i := (i : Int)) (N := N) h44
  have lenA : (abM W i N).length = (unM W i N).length + 1 := by unfold abM; rw [List.length_append]; rfl
  have tf := fun o (a : nTx i o) => hF o (lg_tx (by omega) a)
  have tx1 : I1 (tX i) = I (tX i) := (tf (tX i) (by unfold nTx; omega)).2.2
  have t80 : I1 (tX i + 80 + mv i) = I (tX i + 80 + mv i) := (tf _ (by have := (hl i hi).2; unfold nTx; omega)).2.2
  have rb : ∀ o, o ≠ tX i → o ≠ 1069 → rbI I1 i (mv i) o = I1 o := fun o a b => by unfold rbI; exact fiI_o a b _
  have u5 : ∀ o, o ≠ tX i → up2 (rbI I1 i (mv i)) (tX i) 5 V o = rbI I1 i (mv i) o := fun o a => funext (fun k => up2_o _ _ _ _ a)
  have rx : ∀ z, rbI I1 i (mv i) (tX i) z = if z = 6 then -1 else if z = 4 then 3 else I (tX i) z := fun z => by
    unfold rbI
    rw [fiI_x (by omega), tx1]
  have e223 : T 223 i = W 223 i := hT.1 223 i (by omega) (Or.inl (by decide))
  rw [eA, show N + (unM W i N).length + 1 = N + (abM W i N).length by omega]
  refine h.abort hl ⟨hi, ho⟩ hT rfl (by omega) ⟨fun o k h1 h2 => ?_, ?_, ?_, ?_⟩ ⟨fun o h1 h2 h3 => ?_, fun k k1 k2 k3 => ?_, ⟨?_, ?_, ?_⟩, fun z => ?_, ?_, ⟨?_, ?_⟩, fun r f hr f0 f1 => ?_⟩
  · unfold mends
    rw [show up2 (up2 (up2 (up2 T 221 i 3) 225 i (-1)) 226 (T 223 i) 0) 222 i V o k = up2 (up2 (up2 T 221 i 3) 225 i (-1)) 226 (T 223 i) 0 o k from if_neg (fun z => h1 ⟨Or.inr (Or.inl z.1), z.2⟩)]
    rw [show up2 (up2 (up2 T 221 i 3) 225 i (-1)) 226 (T 223 i) 0 o k = up2 (up2 T 221 i 3) 225 i (-1) o k from if_neg (fun z => h2 ⟨z.1, z.2.trans e223⟩)]
    exact (if_neg (fun z => h1 ⟨Or.inr (Or.inr z.1), z.2⟩)).trans (if_neg (fun z => h1 ⟨Or.inl z.1, z.2⟩))
  · unfold mends
    rw [up2_o _ _ _ _ (by decide), up2_o _ _ _ _ (by decide), up2_o _ _ _ _ (by decide), up2_eq]
  · unfold mends
    rw [up2_o _ _ _ _ (by decide), up2_o _ _ _ _ (by decide), up2_eq]
  · unfold mends
    rw [up2_o _ _ _ _ (by decide), e223, up2_eq]
  · rw [u5 o h2, rb o h2 h3]; exact (hF o h1).2.2
  · rw [up2_k _ _ _ _ k2, rx, if_neg k3, if_neg k1]
  · rw [up2_k _ _ _ _ (by decide), rx, if_neg (by decide), if_pos rfl]
  · rw [up2_eq, up2_eq]
  · rw [up2_k _ _ _ _ (by decide), rx, if_pos rfl]
  · rw [u5 1069 (by omega)]
    unfold FpS rbI
    refine ⟨fun ⟨p, p0, p1, p2⟩ => fiI_w (by omega) z _ ⟨p.toNat, by rw [tx1]; omega, by rw [show ((p.toNat : Nat) : Int) = p by omega, t80]; exact p2⟩, fun hz => ?_⟩
    rw [fiI_n (by omega) z _ (fun p hp e => hz ⟨(p : Int), by omega, by rw [tx1] at hp; omega, by rw [t80] at e; exact e⟩)]
    exact congrFun (hF 1069 (by unfold nLg; omega)).2.2 z
  · have a := lgEq_app h.lg.2 hX hT (by rw [List.length_append, lenL, lenA]; rfl) (fun j x ρ hx hρ => ?_)
    · intro r hr
      have gg : ∀ f, lgF (up2 (rbI I1 i (mv i)) (tX i) 5 V) g' r f = lgF I1 g' r f := fun f => by
        unfold lgF
        rw [u5 _ (by omega), rb _ (by omega) (by omega)]
      have e4 : ∀ o k, 246 ≤ o → o ≤ 249 → up2 (mends T i 3) 222 i V o k = T o k := fun o k a b => by
        unfold mends
        rw [up2_o _ _ _ _ (by omega), up2_o _ _ _ _ (by omega), up2_o _ _ _ _ (by omega), up2_o _ _ _ _ (by omega)]
      rw [gg, gg, gg, gg, e4 246 _ (by decide) (by decide), e4 247 _ (by decide) (by decide), e4 248 _ (by decide) (by decide), e4 249 _ (by decide) (by decide)]
      exact a r hr
    · have eM : undL I g i N 0 ++ [rcN 3 i (-2147483648) (-2147483648)] = (abM W i N).map (fun x => rcN x.1 x.2.1 x.2.2.1 x.2.2.2) := by
        unfold abM
        rw [List.map_append, eL]; rfl
      rw [eM, List.getElem?_map, hx] at hρ
      rw [← Option.some.inj hρ]
      exact ⟨rfl, rfl, rfl, rfl⟩
  · rw [u5 1192 (by omega), rb 1192 (by omega) (by decide), hL.1, lenL, lenA]; rfl
  · rw [u5 1192 (by omega), rb 1192 (by omega) (by decide)]; exact hX.2.2 1 (by decide)
  · have e : lgF (up2 (rbI I1 i (mv i)) (tX i) 5 V) g' r f = lgF I1 g' r f := by
      unfold lgF
      rw [u5 _ (by omega), rb _ (by omega) (by omega)]
    rw [e]; exact hX.1 r f hr f0 f1
/-- whom it waits for is under way -/
theorem blk_rg {i : Int} {k : Nat} (h : ER I W n N g lv mv q) (hL : trL I k = wtL W k) (hr : ∀ x ∈ wtL W k, (0 ≤ x.1 ∧ x.1 < 6) ∧ -1000 ≤ x.2 ∧ x.2 ≤ 1000) (hb : owF I i k ≠ -1) : 0 ≤ owF I i k ∧ owF I i k < n := by
  unfold owF at *
  have hz : fs (owG I i) 0 k ≠ -1 := fun z => hb (if_pos z)
  rw [if_neg hz] at *
  rcases fs_fst (g := owG I i) k 0 with w | ⟨w0, w1, w2⟩
  · exact absurd w hz
  · generalize fs (owG I i) 0 k = j at *
    have jk : j.toNat < k := by omega
    have ex : (I 1102 j, I 1103 j) ∈ wtL W k := by
      rw [← hL]
      have := trL_get (I := I) jk
      rw [show ((j.toNat : Nat) : Int) = j by omega] at this
      exact List.mem_of_getElem? this
    have rg := hr _ ex
    obtain ⟨-, f0, f1⟩ := fpO_in rg.1 rg.2
    unfold owJ at *
    rw [if_neg (by omega)] at *
    rcases h.wr.1 _ f0 f1 with w | ⟨m, a, b⟩
    · exact absurd w hb
    · have := a.1
      rw [b]; omega
end
