/-! the calls pay for the records -/
section
variable {I S S' : IT} {k n N g : Nat} {i i' q : Int} {lv mv : Nat → Nat}
def capF (S : IT) (x : Int × Int) : Nat := (S 201 x.1 - 1).toNat
noncomputable def rsv (S : IT) (j : Nat) : Nat := if S 227 j = 0 then (S 201 (S 228 j)).toNat + 1 else 1
def opA (S : IT) (j : Nat) : Prop := S 221 j < 2
def wtA (S : IT) (i : Int) (j : Nat) : Prop := S 221 j = 1 ∨ (j : Int) = i
def nS (S : IT) : Nat := (S 100 19).toNat
/-- the keys that ever came in -/
def ZK (S : IT) (Kv : List (Int × Int)) : Prop := (Kv.Nodup ∧ ∀ x, x ∈ Kv → (1 ≤ S 201 x.1 ∧ S 201 x.1 ≤ 4) ∧ 0 ≤ x.1 ∧ x.1 < 6) ∧ (∀ t ρ, 0 ≤ t → t < 6 → mIn S 4 t ρ → (t, ρ.1) ∈ Kv) ∧ ∀ j, j < nS S → opA S j → (∀ t ρ, 0 ≤ t → t < 6 → mIn S (S 223 j) t ρ → (t, ρ.1) ∈ Kv) ∧ ∀ x, WrK S j x → x ∈ Kv
/-- writes of those under way -/
def ZW (S : IT) (Kv : List (Int × Int)) (d b : Nat → Nat) : Prop := ∀ j, j < nS S → opA S j → wN S j ≤ min 48 Kv.length * d j + b j ∧ wN S j ≤ d j + b j + kS (slk S (S 223 j) (WrK S j)) Kv
def ZA (k : Nat) (i : Int) (S : IT) : Prop := ∃ (Kv : List (Int × Int)) (E : List Gq) (d b : Nat → Nat) (cB chk : Nat), ZK S Kv ∧ (∀ g, g ∈ E → GqOK (min 48 Kv.length) (kS (capF S) Kv) g) ∧ ZW S Kv d b ∧
  (kS (capF S) Kv + 2 * Kv.length + cB + chk + gqS gqC E + oS (opA S) (fun j => 1 + d j) (nS S) + (S 100 37).toNat + oS (wtA S i) (rsv S) (nS S) ≤ k) ∧ (gqS gqB E + oS (opA S) b (nS S) ≤ Kv.length + 2 * cB) ∧ (S 100 44).toNat ≤ gqS gqW E + oS (opA S) (wN S) (nS S) + chk
theorem oS_sub {p p' : Nat → Prop} {f : Nat → Nat} : ∀ n : Nat, (∀ j, j < n → p' j → p j) → oS p' f n ≤ oS p f n
  | 0, _ => Nat.le_refl _
  | n + 1, h => by
    have ih := oS_sub (f := f) n (fun j hj => h j (by omega))
    by_cases y : p' n
    · rw [oS_y y, oS_y (h n (by omega) y)]; omega
    · rw [oS_n y]
      by_cases z : p n
      · rw [oS_y z]; omega
      · rw [oS_n z]; exact ih
/-- those under way wrote keys of their own -/
def WrD (S : IT) : Prop := ∀ (j l : Nat) (x : Int × Int), j < nS S → l < nS S → opA S j → opA S l → WrK S j x → WrK S l x → j = l
theorem ER.wrd (h : ER I S n N g lv mv q) : WrD S ∧ nS S = n := by
  have c := h.cnt
  have en : nS S = n := by
    unfold nS
    rw [c.1, Int.toNat_natCast]
  refine ⟨fun j l x hj hl oj ol wj wl => ?_, en⟩
  rw [en] at hj hl
  obtain ⟨r, hr⟩ := wj
  obtain ⟨-, hw⟩ := h.wr
  have rg := h.lr.2 r hr.2.2.1
  have t6 : 0 ≤ x.1 ∧ x.1 < 6 := by have := hr.2.2.2.2.1; omega
  have y6 : -1000 ≤ x.2 ∧ x.2 ≤ 1000 := by have := hr.2.2.2.2.2; omega
  have a := (hw j ⟨hj, oj⟩ x.1 x.2 t6.1 t6.2 y6.1 y6.2).mpr ⟨r, hr⟩
  have b := (hw l ⟨hl, ol⟩ x.1 x.2 t6.1 t6.2 y6.1 y6.2).mpr wl
  omega
theorem slk_le (s : Int) (Wr : Int × Int → Prop) (x : Int × Int) : slk S s Wr x ≤ capF S x ∧ (slk S s Wr x ≠ 0 → Wr x) := by
  by_cases y : Wr x
  · rw [slk_y y]
    exact ⟨Nat.sub_le _ _, fun _ => y⟩
  · rw [slk_n y]
    exact ⟨Nat.zero_le _, fun z => absurd rfl z⟩
theorem sl_sum (h : WrD S) (x : Int × Int) : oS (opA S) (fun j => slk S (S 223 j) (WrK S j) x) (nS S) ≤ capF S x :=
  oS_single (nS S) (fun j l hj hl oj ol a b => h j l x hj hl oj ol ((slk_le _ _ x).2 a) ((slk_le _ _ x).2 b)) (fun j _ _ => (slk_le _ _ x).1)
/-- the records fit, and also once one of those under way is undone, if a call is left for it -/
theorem ZA.num (h : ZA k i S) (hd : WrD S) (k5 : k ≤ 512) : (S 100 44).toNat < 16320 ∧ ∀ j, j < nS S → opA S j → wtA S i j → (S 100 44).toNat + wN S j + 1 < 16320 := by
  obtain ⟨Kv, E, d, b, cB, chk, hK, hE, hW, hk, hb, hN⟩ := h
  have c3 : ∀ x, x ∈ Kv → capF S x ≤ 3 := fun x hx => by
    have := (hK.1.2 x hx).1
    unfold capF
    omega
  refine ⟨?_, fun j hj oj wj => ?_⟩
  · exact za_core (op := opA S) (w := wN S) (d := d) (b := b) (sl := fun j => slk S (S 223 j) (WrK S j)) (c := capF S) (n := nS S) (k := k) hE (fun j hj oj => hW j hj oj) c3 (fun x _ => sl_sum hd x) (by omega) hb k5 hN
  · have r1 : 1 ≤ rsv S j := by
      unfold rsv
      split <;> omega
    have r2 := oS_rm (f := rsv S) wj (nS S) hj
    exact (za_core2 (op := opA S) (w := wN S) (d := d) (b := b) (sl := fun j => slk S (S 223 j) (WrK S j)) (c := capF S) (n := nS S) (k := k) hj oj hE (fun j hj oj => hW j hj oj) c3 (fun x _ => sl_sum hd x) (by omega) hb k5 hN).1
/-- what the account hangs on -/
theorem ZA.keep (h : ZA k i S) (e : ∀ o, (o = 201 ∨ o = 214 ∨ o = 215 ∨ o = 223 ∨ o = 227 ∨ o = 228 ∨ (246 ≤ o ∧ o ≤ 249)) → S' o = S o) (e19 : S' 100 19 = S 100 19) (e44 : S' 100 44 = S 100 44) (e37 : S' 100 37 ≤ S 100 37) (ho : ∀ j, j < nS S → (opA S' j ↔ opA S j)) (hw : ∀ j, j < nS S → wtA S' i' j → wtA S i j) : ZA k i' S' := by
  obtain ⟨Kv, E, d, b, cB, chk, hK, hE, hW, hk, hb, hN⟩ := h
  have f1 := e 201 (by omega)
  have f4 := e 214 (by omega)
  have f5 := e 215 (by omega)
  have f23 := e 223 (by omega)
  have f27 := e 227 (by omega)
  have f28 := e 228 (by omega)
  have f46 := e 246 (by omega)
  have f47 := e 247 (by omega)
  have f48 := e 248 (by omega)
  have f49 := e 249 (by omega)
  have en : nS S' = nS S := by unfold nS; rw [e19]
  have ewk : ∀ j, WrK S' j = WrK S j := fun j => funext (fun x => by
    unfold WrK wrR
    rw [f46, f47, f48, f49, e44])
  have ewn : ∀ j, wN S' j = wN S j := fun j => by
    unfold wN
    rw [e44]
    exact un_same _ (fun r _ => by rw [f46, f47]; exact ⟨rfl, rfl⟩)
  have ecap : capF S' = capF S := funext (fun x => by unfold capF; rw [f1])
  have eslk : ∀ s (Wr : Int × Int → Prop), slk S' s Wr = slk S s Wr := fun s Wr => funext (fun x => by
    unfold slk
    rw [f1, cw_of f4 f5])
  have ersv : rsv S' = rsv S := funext (fun j => by unfold rsv; rw [f27, f28, f1])
  have eop : ∀ f : Nat → Nat, oS (opA S') f (nS S) = oS (opA S) f (nS S) := fun f => oS_eq (nS S) (fun j hj => ⟨ho j hj, fun _ => rfl⟩)
  refine ⟨Kv, E, d, b, cB, chk, ⟨⟨hK.1.1, fun x hx => by rw [f1]; exact hK.1.2 x hx⟩, fun t ρ t0 t1 hρ => hK.2.1 t ρ t0 t1 ((mIn_of2 f4 f5 t ρ).mp hρ), fun j hj oj => ?_⟩, by rw [ecap]; exact hE, fun j hj oj => ?_, ?_, ?_, ?_⟩
  · rw [en] at hj
    obtain ⟨a, c⟩ := hK.2.2 j hj ((ho j hj).mp oj)
    refine ⟨fun t ρ t0 t1 hρ => a t ρ t0 t1 ?_, fun x hx => c x ?_⟩
    · rw [f23] at hρ
      exact (mIn_of2 f4 f5 t ρ).mp hρ
    · rw [ewk] at hx; exact hx
  · rw [en] at hj
    rw [ewn, ewk, f23, eslk]
    exact hW j hj ((ho j hj).mp oj)
  · rw [ecap, en, eop, ersv]
    have := oS_sub (f := rsv S) (nS S) hw
    omega
  · rw [en, eop]; exact hb
  · rw [en, e44, eop, show wN S' = wN S from funext ewn]; exact hN
end
