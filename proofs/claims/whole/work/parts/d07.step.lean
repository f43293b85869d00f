/-! an allowed write, counted -/
section
variable {S S2 W : IT} {i : Nat} {s : Int}
/-- the numbers behind an allowed write: K the keys before, K' behind -/
def WsC (S S2 W : IT) (i : Nat) (s : Int) (Wr : Int × Int → Prop) (K K' : List (Int × Int)) (n : Nat) : Prop :=
  W 100 41 = n ∧ K'.Nodup ∧ (∀ x, x ∈ K → x ∈ K') ∧ (∀ x, x ∈ wtL W n → x ∈ K' ∧ 0 ≤ x.1 ∧ x.1 < 6) ∧ RWm S2 s ∧ (∀ t ρ, 0 ≤ t → t < 6 → mIn S2 s t ρ → (t, ρ.1) ∈ K') ∧ n ≤ 48 ∧
  (S 227 i = 0 → n = 1 ∧ ((∃ y, K' = (S 228 i, y) :: K ∧ kS (slk S s Wr) K ≤ kS (slk S2 s (fun x => Wr x ∨ x ∈ wtL W n)) K') ∨ (K' = K ∧ kS (slk S s Wr) K ≤ kS (slk S2 s (fun x => Wr x ∨ x ∈ wtL W n)) K + (S 201 (S 228 i) - 1).toNat))) ∧
  (S 227 i = 1 → n = 1 ∧ K' = K ∧ kS (slk S s Wr) K ≤ kS (slk S2 s (fun x => Wr x ∨ x ∈ wtL W n)) K + 1) ∧
  (S 227 i ≠ 0 → S 227 i ≠ 1 → K' = K ∧ n ≤ K.length ∧ kS (slk S s Wr) K + n ≤ kS (slk S2 s (fun x => Wr x ∨ x ∈ wtL W n)) K + 1)
theorem ws_step {Wr : Int × Int → Prop} {K : List (Int × Int)} (h : WsF S S2 W i s) (hm : RWm S s) (h201 : S2 201 = S 201) (ht : 0 ≤ S 228 i ∧ S 228 i < 6) (hw : ∀ x, x ∈ K → 1 ≤ S 201 x.1 ∧ 0 ≤ x.1 ∧ x.1 < 6) (hw0 : 1 ≤ S 201 (S 228 i)) (hK : ∀ t ρ, 0 ≤ t → t < 6 → mIn S s t ρ → (t, ρ.1) ∈ K) (hWr : ∀ x, Wr x → x ∈ K) (hnd : K.Nodup) : ∃ K' n, WsC S S2 W i s Wr K K' n := by
  obtain ⟨n, e41, nd, f6, r2, same, rows, old, ins, upd, del, -⟩ := h
  -- what stays as it was
  have out : ∀ x : Int × Int, x ∈ K → x ∉ wtL W n → slk S2 s (fun x => Wr x ∨ x ∈ wtL W n) x = slk S s Wr x := fun x hx hn => by
    have w := hw x hx
    by_cases y : Wr x
    · rw [slk_y y, slk_y (Or.inl y), h201, same x.1 x.2 w.2.1 w.2.2 hn]
    · rw [slk_n y, slk_n (fun z => z.elim y hn)]
  have inn : ∀ x : Int × Int, x ∈ wtL W n → slk S2 s (fun x => Wr x ∨ x ∈ wtL W n) x = (S 201 x.1 - 1).toNat - cw (S 201 x.1) S2 s x.1 x.2 := fun x hx => by
    rw [slk_y (Or.inr hx), h201]
  have top : ∀ x : Int × Int, 1 ≤ S 201 x.1 → cw (S 201 x.1) S s x.1 x.2 ≤ (S 201 x.1 - 1).toNat ∧ cw (S 201 x.1) S2 s x.1 x.2 ≤ (S 201 x.1 - 1).toNat := fun x hx => ⟨cw_le _ hx _ _ _ _, cw_le _ hx _ _ _ _⟩
  have bef : ∀ x : Int × Int, slk S s Wr x = (S 201 x.1 - 1).toNat - cw (S 201 x.1) S s x.1 x.2 ∨ slk S s Wr x = 0 := fun x => by
    by_cases y : Wr x
    · exact Or.inl (slk_y y)
    · exact Or.inr (slk_n y)
  -- the one key of an insert or an update
  have single : n = 1 → ∃ x, wtL W n = [x] := fun e => by
    subst e
    exact ⟨_, rfl⟩
  have rowK : S 227 i ≠ 0 → ∀ t ρ, 0 ≤ t → t < 6 → mIn S2 s t ρ → (t, ρ.1) ∈ K := fun k0 t ρ t0 t1 hρ => by
    rcases rows t ρ t0 t1 hρ with ⟨σ, a, b⟩ | z
    · rw [← b]; exact hK t σ t0 t1 a
    · exact absurd z.1 k0
  have oldK : S 227 i ≠ 0 → ∀ x, x ∈ wtL W n → x ∈ K ∧ 0 ≤ x.1 ∧ x.1 < 6 := fun k0 x hx => by
    obtain ⟨ρ, a, b⟩ := old k0 x hx
    have c := f6 x hx
    refine ⟨?_, c⟩
    have := hK x.1 ρ c.1 c.2 a
    rw [b] at this
    exact this
  by_cases k0 : S 227 i = 0
  · obtain ⟨n1, z⟩ := ins k0
    obtain ⟨x, hx⟩ := single n1
    have mx : x ∈ wtL W n := by rw [hx]; exact List.mem_singleton.mpr rfl
    have only : ∀ y, y ∈ wtL W n → y = x := fun y hy => by rw [hx] at hy; exact List.mem_singleton.mp hy
    obtain ⟨z1, z2⟩ := z x mx
    have x6 := f6 x mx
    by_cases xk : x ∈ K
    · refine ⟨K, n, e41, hnd, fun _ => id, fun y hy => ?_, r2, fun t ρ t0 t1 hρ => ?_, by omega, fun _ => ⟨n1, Or.inr ⟨rfl, ?_⟩⟩, fun e => by omega, fun e => absurd k0 e⟩
      · rw [only y hy]; exact ⟨xk, x6⟩
      · rcases rows t ρ t0 t1 hρ with ⟨σ, a, b⟩ | w
        · rw [← b]; exact hK t σ t0 t1 a
        · rw [only _ w.2]; exact xk
      · refine kS_one (x := x) K hnd (fun y hy ne => ?_) ?_
        · rw [out y hy (fun w => ne (only y w))]; exact Nat.le_refl _
        · rw [inn x mx]
          have := top x (hw x xk).1
          rw [← z2]
          rcases bef x with w | w <;> omega
    · have nW : ¬ Wr x := fun w => xk (hWr x w)
      refine ⟨x :: K, n, e41, List.nodup_cons.mpr ⟨xk, hnd⟩, fun y hy => List.mem_cons_of_mem _ hy, fun y hy => ?_, r2, fun t ρ t0 t1 hρ => ?_, by omega, fun _ => ⟨n1, Or.inl ⟨x.2, by rw [← z2], ?_⟩⟩, fun e => by omega, fun e => absurd k0 e⟩
      · rw [only y hy]; exact ⟨List.mem_cons_self .., x6⟩
      · rcases rows t ρ t0 t1 hρ with ⟨σ, a, b⟩ | w
        · rw [← b]; exact List.mem_cons_of_mem _ (hK t σ t0 t1 a)
        · rw [only _ w.2]; exact List.mem_cons_self ..
      · have := kS_le (f := slk S s Wr) (g := slk S2 s (fun x => Wr x ∨ x ∈ wtL W n)) K (fun y hy => by
          rw [out y hy (fun w => xk (by rw [← only y w]; exact hy))]; exact Nat.le_refl _)
        show _ ≤ slk S2 s (fun x => Wr x ∨ x ∈ wtL W n) x + kS _ K
        omega
  · have n48 : n ≤ 48 := by
      have := rows48 hm nd (fun x hx => ⟨f6 x hx, old k0 x hx⟩)
      unfold wtL at this
      rw [List.length_map, List.length_range] at this
      exact this
    have nK : n ≤ K.length := by
      have := nd_len _ K nd (fun x hx => (oldK k0 x hx).1)
      unfold wtL at this
      rw [List.length_map, List.length_range] at this
      exact this
    by_cases k1 : S 227 i = 1
    · obtain ⟨n1, z⟩ := upd k1
      obtain ⟨x, hx⟩ := single n1
      have mx : x ∈ wtL W n := by rw [hx]; exact List.mem_singleton.mpr rfl
      have only : ∀ y, y ∈ wtL W n → y = x := fun y hy => by rw [hx] at hy; exact List.mem_singleton.mp hy
      refine ⟨K, n, e41, hnd, fun _ => id, oldK k0, r2, rowK k0, n48, fun e => absurd e k0, fun _ => ⟨n1, rfl, ?_⟩, fun _ e => absurd k1 e⟩
      refine kS_one (x := x) K hnd (fun y hy ne => ?_) ?_
      · rw [out y hy (fun w => ne (only y w))]; exact Nat.le_refl _
      · rw [inn x mx]
        have := top x (hw x (oldK k0 x mx).1).1
        have := z x mx
        rcases bef x with w | w <;> omega
    · refine ⟨K, n, e41, hnd, fun _ => id, oldK k0, r2, rowK k0, n48, fun e => absurd e k0, fun e => absurd e k1, fun _ _ => ⟨rfl, nK, ?_⟩⟩
      have dl := del k0 k1
      have len : (wtL W n).length = n := by
        unfold wtL
        rw [List.length_map, List.length_range]
      have cnt := kS_cnt (e := fun x => if x ∈ wtL W n ∧ x ≠ (S 228 i, S 229 i) then 1 else 0) ((wtL W n).erase (S 228 i, S 229 i)) K (nd.erase _) (fun x hx => by
        have hx' := List.mem_of_mem_erase hx
        have ne : x ≠ (S 228 i, S 229 i) := fun w => by
          rw [w] at hx
          exact (List.Nodup.not_mem_erase nd) hx
        refine ⟨(oldK k0 x hx').1, ?_⟩
        show 1 ≤ (if x ∈ wtL W n ∧ x ≠ (S 228 i, S 229 i) then 1 else 0)
        rw [if_pos ⟨hx', ne⟩]
        exact Nat.le_refl _)
      have ler : n ≤ ((wtL W n).erase (S 228 i, S 229 i)).length + 1 := by
        have := List.length_erase (a := (S 228 i, S 229 i)) (l := wtL W n)
        rw [len] at this
        split at this <;> omega
      have sum := kS_add (f := slk S s Wr) (e := fun x => if x ∈ wtL W n ∧ x ≠ (S 228 i, S 229 i) then 1 else 0) (g := slk S2 s (fun x => Wr x ∨ x ∈ wtL W n)) K (fun x hx => by
        show slk S s Wr x + (if x ∈ wtL W n ∧ x ≠ (S 228 i, S 229 i) then 1 else 0) ≤ _
        by_cases hxw : x ∈ wtL W n
        · have d := dl x hxw
          have tp := top x (hw x hx).1
          rw [inn x hxw]
          by_cases ne : x ≠ (S 228 i, S 229 i)
          · have d2 := d.2 ne
            rw [if_pos ⟨hxw, ne⟩]
            rcases bef x with w | w <;> omega
          · rw [if_neg (fun z => ne z.2)]
            rcases bef x with w | w <;> omega
        · rw [out x hx hxw, if_neg (fun z => hxw z.1)]
          exact Nat.le_refl _)
      omega
end
