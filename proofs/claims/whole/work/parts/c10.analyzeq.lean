/-! analyze: class and reference count alike -/
section
variable {I S I' S' : IT} {n N g : Nat} {lv mv : Nat → Nat} {q t c : Int}
/-- k's value isn't NULL and comes first at k -/
def fsG (v : Int → Int) (k : Int) : Prop := v k ≠ -2147483648 ∧ ∀ i, 0 ≤ i → i < k → v i ≠ v k
/-- the values in the order in which they come first -/
noncomputable def fsV (v : Int → Int) : Nat → List Int
  | 0 => []
  | k + 1 => if bI (fsG v k) = 1 then fsV v k ++ [v k] else fsV v k
theorem fsV_yes {v : Int → Int} {k : Nat} (h : fsG v k) : fsV v (k + 1) = fsV v k ++ [v k] := if_pos (bI1 h)
theorem fsV_no {v : Int → Int} {k : Nat} (h : ¬ fsG v k) : fsV v (k + 1) = fsV v k := if_neg (by rw [bI0 h]; decide)
theorem fsV_mem {v : Int → Int} {a : Int} : ∀ k : Nat, a ∈ fsV v k ↔ a ≠ -2147483648 ∧ ∃ j : Nat, j < k ∧ v j = a := by
  intro k
  induction k with
  | zero => exact ⟨fun z => (List.not_mem_nil z).elim, fun ⟨_, j, hj, _⟩ => absurd hj (Nat.not_lt_zero j)⟩
  | succ k ihx =>
    have up : (a ≠ -2147483648 ∧ ∃ j : Nat, j < k ∧ v j = a) → a ≠ -2147483648 ∧ ∃ j : Nat, j < k + 1 ∧ v j = a := fun ⟨z, j, hj, e⟩ => ⟨z, j, by omega, e⟩
    by_cases hg : fsG v k
    · rw [fsV_yes hg, List.mem_append, List.mem_singleton, ihx]
      constructor
      · rintro (zx | zx)
        · exact up zx
        · exact ⟨zx ▸ hg.1, k, Nat.lt_succ_self k, zx.symm⟩
      · rintro ⟨zx, jx, hjx, ejx⟩
        by_cases ekx : jx = k
        · exact Or.inr (by rw [← ejx, ekx])
        · exact Or.inl ⟨zx, jx, by omega, ejx⟩
    · rw [fsV_no hg, ihx]
      constructor
      · exact up
      · rintro ⟨zx, jx, hjx, ejx⟩
        refine ⟨zx, ?_⟩
        by_cases ekx : jx = k
        · subst ekx
          apply Classical.byContradiction
          intro nox
          refine hg ⟨by rw [ejx]; exact zx, fun i i0 i1 e => nox ⟨i.toNat, by omega, ?_⟩⟩
          rw [show ((i.toNat : Nat) : Int) = i by omega, e, ejx]
        · exact ⟨jx, by omega, ejx⟩
theorem fsV_nodup {v : Int → Int} : ∀ k : Nat, (fsV v k).Nodup := by
  intro k
  induction k with
  | zero => exact List.nodup_nil
  | succ k ihx =>
    by_cases hg : fsG v k
    · rw [fsV_yes hg]
      refine List.nodup_append.mpr ⟨ihx, List.nodup_cons.mpr ⟨List.not_mem_nil, List.nodup_nil⟩, fun a ha b hb => ?_⟩
      rw [List.mem_singleton.mp hb]
      intro e
      obtain ⟨-, jx, hjx, ejx⟩ := (fsV_mem k).mp ha
      exact hg.2 jx (by omega) (by omega) (ejx.trans e)
    · rw [fsV_no hg]; exact ihx
theorem fsV_len {v : Int → Int} : ∀ k : Nat, ((fsV v k).length : Int) = cntI (fsG v) k := by
  intro k
  induction k with
  | zero => rfl
  | succ k ihx =>
    by_cases hg : fsG v k
    · rw [fsV_yes hg, List.length_append, ← cntI_yes hg, ← ihx]
      rfl
    · rw [fsV_no hg, ← cntI_no hg, ihx, Int.add_zero]
theorem fs_same {v u : Int → Int} {k m : Nat} (h : ∀ a, a ≠ -2147483648 → ((∃ j : Nat, j < k ∧ v j = a) ↔ ∃ j : Nat, j < m ∧ u j = a)) : cntI (fsG v) k = cntI (fsG u) m := by
  rw [← fsV_len, ← fsV_len]
  have : (fsV v k).Perm (fsV u m) := (List.perm_ext_iff_of_nodup (fsV_nodup k) (fsV_nodup m)).mpr (fun a => by
    rw [fsV_mem, fsV_mem]
    exact ⟨fun z => ⟨z.1, (h a z.1).mp z.2⟩, fun z => ⟨z.1, (h a z.1).mpr z.2⟩⟩)
  rw [this.length_eq]
/-- class and reference hold the same statistics -/
def PlR (I S : IT) : Prop := (∀ t, 0 ≤ t → t < 6 → I 1385 t = S 291 t ∧ 0 ≤ S 291 t ∧ S 291 t ≤ 8) ∧ ∀ k, 0 ≤ k → k < 24 → I 1386 k = S 292 k ∧ 0 ≤ S 292 k ∧ S 292 k ≤ 8
theorem dif_eq (h : ER I S n N g lv mv q) (ht : 0 ≤ t ∧ t < 6) (hc : 0 ≤ c ∧ c < 4) : clD I t c = mDif S t c := by
  have eq := h.st.1.1
  have rc := h.st.1.2
  have rm := h.st.2.1
  obtain ⟨m1, -, -⟩ := rm
  have mt := m1 t ht.1 ht.2
  have e4 : (6 * 4 + t : Int) = 24 + t := by omega
  rw [e4] at mt
  have a1 : clD I t c = cntI (fsG (fun k => I 1161 ((t * 8 + k) * 4 + c))) 8 := rfl
  have a2 : mDif S t c = cntI (fsG (fun k => S 215 (4 * (64 * (6 * 4 + t) + k) + c))) (S 214 (24 + t)).toNat := cntI_eq _ (fun j _ => ⟨fun z => ⟨z.1, fun i i0 i1 => z.2 i i0 i1⟩, fun z => ⟨z.1, fun i i0 i1 => z.2 i i0 i1⟩⟩)
  rw [a1, a2]
  refine fs_same (fun a na => ?_)
  have g4c : ∀ {f : Int → Int} {b : Int}, g4 (q4 f b) c = f (b + c) := fun {f b} => g4_q hc
  constructor
  · rintro ⟨jx, hjx, ejx⟩
    have ek : I 1161 ((t * 8 + jx) * 4) ≠ -2147483648 := fun z => na (by
      have := rc.2.1 (t * 8 + jx) c (by omega) (by omega) z hc.1 hc.2
      rw [← ejx]; exact this)
    obtain ⟨rx, r0, r1, r2⟩ := (eq t (q4 (I 1161) ((t * 8 + jx) * 4)) ht.1 ht.2).mp ⟨t * 8 + jx, by omega, by omega, ek, rfl⟩
    rw [e4] at r1
    refine ⟨rx.toNat, by omega, ?_⟩
    have := congrArg (fun z => g4 z c) r2
    rw [g4c, g4c] at this
    rw [show ((rx.toNat : Nat) : Int) = rx by omega, ← ejx, this]
  · rintro ⟨jx, hjx, ejx⟩
    obtain ⟨px, p0, p1, p2, p3⟩ := (eq t (q4 (S 215) (mrow 4 t jx)) ht.1 ht.2).mpr ⟨jx, by omega, by rw [e4]; omega, rfl⟩
    refine ⟨(px - t * 8).toNat, by omega, ?_⟩
    have := congrArg (fun z => g4 z c) p3
    rw [g4c, g4c] at this
    rw [show (((px - t * 8).toNat : Nat) : Int) = px - t * 8 by omega, show t * 8 + (px - t * 8) = px by omega, ← this, ← ejx]
end
