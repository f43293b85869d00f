/-! what an allowed write does to the cells that may still go -/
section
variable {S S2 W : IT} {i : Nat} {s : Int}
def kS (f : Int × Int → Nat) : List (Int × Int) → Nat
  | [] => 0
  | x :: l => f x + kS f l
theorem kS_le {f g : Int × Int → Nat} : ∀ K : List (Int × Int), (∀ x, x ∈ K → f x ≤ g x) → kS f K ≤ kS g K
  | [], _ => Nat.le_refl _
  | x :: l, h => Nat.add_le_add (h x (List.mem_cons_self ..)) (kS_le l (fun y hy => h y (List.mem_cons_of_mem _ hy)))
theorem kS_add {f e g : Int × Int → Nat} : ∀ K : List (Int × Int), (∀ x, x ∈ K → f x + e x ≤ g x) → kS f K + kS e K ≤ kS g K
  | [], _ => Nat.le_refl _
  | x :: l, h => by
    have a := h x (List.mem_cons_self ..)
    have b := kS_add l (fun y hy => h y (List.mem_cons_of_mem _ hy))
    show f x + kS f l + (e x + kS e l) ≤ g x + kS g l
    omega
theorem kS_er {e : Int × Int → Nat} {x : Int × Int} : ∀ {K : List (Int × Int)}, x ∈ K → kS e K = e x + kS e (K.erase x)
  | y :: l, h => by
    by_cases q : y = x
    · subst q
      rw [List.erase_cons_head]; rfl
    · rw [List.erase_cons_tail (by simpa using q)]
      have hx : x ∈ l := (List.mem_cons.mp h).resolve_left (fun z => q z.symm)
      have := kS_er (e := e) hx
      show e y + kS e l = e x + (e y + kS e (l.erase x))
      omega
/-- one cell at each place of a list -/
theorem kS_cnt {e : Int × Int → Nat} : ∀ (L K : List (Int × Int)), L.Nodup → (∀ x, x ∈ L → x ∈ K ∧ 1 ≤ e x) → L.length ≤ kS e K
  | [], _, _, _ => Nat.zero_le _
  | x :: l, K, hn, h => by
    obtain ⟨n1, n2⟩ := List.nodup_cons.mp hn
    obtain ⟨a, b⟩ := h x (List.mem_cons_self ..)
    have := kS_cnt l (K.erase x) n2 (fun y hy => by
      have c := h y (List.mem_cons_of_mem _ hy)
      have ne : y ≠ x := fun z => n1 (by rw [← z]; exact hy)
      exact ⟨(List.mem_erase_of_ne ne).mpr c.1, c.2⟩)
    rw [kS_er a]
    show l.length + 1 ≤ _
    omega
theorem kS_one {f g : Int × Int → Nat} {x : Int × Int} {c : Nat} : ∀ K : List (Int × Int), K.Nodup → (∀ y, y ∈ K → y ≠ x → f y ≤ g y) → (f x ≤ g x + c) → kS f K ≤ kS g K + c
  | [], _, _, _ => Nat.zero_le _
  | y :: l, hn, h, hx => by
    obtain ⟨n1, n2⟩ := List.nodup_cons.mp hn
    show f y + kS f l ≤ g y + kS g l + c
    by_cases q : y = x
    · have := kS_le (f := f) (g := g) l (fun z hz => h z (List.mem_cons_of_mem _ hz) (fun w => n1 (by rw [q, ← w]; exact hz)))
      rw [q]
      omega
    · have := kS_one l n2 (fun z hz => h z (List.mem_cons_of_mem _ hz)) hx
      have := h y (List.mem_cons_self ..) q
      omega
theorem nd_len {α : Type} [DecidableEq α] : ∀ (L K : List α), L.Nodup → (∀ x, x ∈ L → x ∈ K) → L.length ≤ K.length
  | [], _, _, _ => Nat.zero_le _
  | x :: l, K, hn, h => by
    obtain ⟨n1, n2⟩ := List.nodup_cons.mp hn
    have a := h x (List.mem_cons_self ..)
    have := nd_len l (K.erase x) n2 (fun y hy => by
      have ne : y ≠ x := fun z => n1 (by rw [← z]; exact hy)
      exact (List.mem_erase_of_ne ne).mpr (h y (List.mem_cons_of_mem _ hy)))
    have e := List.length_erase_of_mem a
    have := List.length_pos_of_mem a
    show l.length + 1 ≤ _
    omega
/-- cells that may still go again: of a key that was written -/
noncomputable def slk (S : IT) (s : Int) (Wr : Int × Int → Prop) (x : Int × Int) : Nat := @ite _ (Wr x) (Classical.propDecidable _) ((S 201 x.1 - 1).toNat - cw (S 201 x.1) S s x.1 x.2) 0
theorem slk_y {Wr : Int × Int → Prop} {x : Int × Int} (h : Wr x) : slk S s Wr x = (S 201 x.1 - 1).toNat - cw (S 201 x.1) S s x.1 x.2 := if_pos h
theorem slk_n {Wr : Int × Int → Prop} {x : Int × Int} (h : ¬ Wr x) : slk S s Wr x = 0 := if_neg h
/-- no more rows than places -/
theorem rows48 (hm : RWm S s) {L : List (Int × Int)} (hn : L.Nodup) (h : ∀ x, x ∈ L → (0 ≤ x.1 ∧ x.1 < 6) ∧ ∃ ρ, mIn S s x.1 ρ ∧ ρ.1 = x.2) : L.length ≤ 48 := by
  have rg : ∀ x, x ∈ L → (0 ≤ x.1 ∧ x.1 < 6) ∧ 0 ≤ mfind S s x.1 x.2 ∧ mfind S s x.1 x.2 < 8 ∧ S 215 (mrow s x.1 (mfind S s x.1 x.2)) = x.2 := fun x hx => by
    obtain ⟨ht, hρ⟩ := h x hx
    have h8 := hm.1 x.1 ht.1 ht.2
    obtain ⟨a, b, c⟩ := (mfnd_rg h8.1).resolve_left ((mfind_in hm ht).mpr hρ)
    exact ⟨ht, a, by omega, c⟩
  have inj := nodup_map_on (f := fun x : Int × Int => (x.1 * 8 + mfind S s x.1 x.2).toNat) (l := L) (fun x hx y hy e => by
    obtain ⟨a1, a2, a3, a4⟩ := rg x hx
    obtain ⟨b1, b2, b3, b4⟩ := rg y hy
    have e' : (x.1 * 8 + mfind S s x.1 x.2).toNat = (y.1 * 8 + mfind S s y.1 y.2).toNat := e
    have e1 : x.1 = y.1 := by omega
    have e2 : mfind S s x.1 x.2 = mfind S s y.1 y.2 := by omega
    rw [e2, e1] at a4
    exact Prod.ext e1 (a4.symm.trans b4)) hn
  have := nd_len _ (List.range 48) inj (fun z hz => by
    obtain ⟨x, hx, e⟩ := List.mem_map.mp hz
    obtain ⟨a1, a2, a3, a4⟩ := rg x hx
    have e' : (x.1 * 8 + mfind S s x.1 x.2).toNat = z := e
    exact List.mem_range.mpr (by omega))
  rw [List.length_map, List.length_range] at this
  exact this
end
