/-! what an allowed insert, an allowed update writes -/
section
variable {I S : IT} {i l : Nat} {s : Int}
theorem wr_ins (h : TriH I S i l s) (h0 : S 227 i = 0) (hQ : mWantQ (up2 S 100 41 0) i) {W2 : IT} (hf : lgFr (mWantI (up2 S 100 41 0) i) W2) : WsF S (mDoesS W2 i s (S 228 i)) (mWantI (up2 S 100 41 0) i) i s := by
  obtain ⟨hA, hcp, hpA, hrA⟩ := h.A
  have t6 := hA.t6
  obtain ⟨⟨hR, hS⟩, ⟨hE, hW⟩, ⟨hm, hk⟩, ⟨hs, h1⟩, hp, hrd, hn, h4⟩ := h
  have w4 := hS.2.1 (S 228 i) hp.2.1.1 hp.2.1.2
  have hi := hpA.2.2.1 h0
  obtain ⟨eW, eQ⟩ := mWant_i (I := up2 S 100 41 0) (i := (i : Int)) (by rw [s41 (by decide)]; exact h0)
  rw [s41 (by decide), s41 (by decide), s41 (by decide)] at eW eQ
  have e3 : ∀ o k, o ≠ 233 → o ≠ 234 → o ≠ 235 → mInsS (up2 S 100 41 0) i (S 228 i) (S 201 (S 228 i) - 1).toNat o k = up2 S 100 41 0 o k := fun o k a b c => mInsS_fr _ o k a b c
  have fW := wantFr (S := S) (i := i)
  have okk := ins_ok (T := mInsS (up2 S 100 41 0) i (S 228 i) (S 201 (S 228 i) - 1).toNat) (A := alI I i) (fun o k a b c d e => (e3 o k a b c).trans (by rw [s41 e])) hA hi hs
  have hok : insOk (alI I i) i := okk.mpr (bIn (by rw [← eQ, bI1 hQ]; decide))
  have e41 : mInsS (up2 S 100 41 0) i (S 228 i) (S 201 (S 228 i) - 1).toNat 100 41 = 0 := (e3 100 41 (by decide) (by decide) (by decide)).trans (up2_eq _ _ _ _)
  have eL : wtL (mWantI (up2 S 100 41 0) i) 1 = [(S 228 i, S 232 (4 * (i : Int)))] := by
    rw [eW]
    have := wtL_wants (W := mInsS (up2 S 100 41 0) i (S 228 i) (S 201 (S 228 i) - 1).toNat) (t := S 228 i) (key := S 232 (4 * (i : Int))) (n := 0) e41
    rw [Nat.zero_add] at this
    rw [this]; rfl
  have e1 : mWantI (up2 S 100 41 0) i 100 41 = ((1 : Nat) : Int) := by rw [eW, mwants_41, e41]; rfl
  obtain ⟨k1, k2, k3, -, -⟩ := hok
  rw [hi.1] at k1 k3
  rw [hpA.1.2] at k2 k3
  have n8 := (free_eq hA.2.1.1 hA.2.1.2 hm t6).mp k2
  have mf := (find_eq hA.2.1.1 hm t6).mp k3
  obtain ⟨z1, z2⟩ := mdoes_ins (W2 := W2) (s := s) (i := i) (S := S) hf fW h0
  have r2 := RWm.put (S := S) (S' := mDoesS W2 i s (S 228 i)) (f := fun c => S 232 (4 * (i : Int) + c)) hm t6 n8 (by rw [Int.add_zero]; exact k1) hi.2.2 (by rw [Int.add_zero]; exact mf) z1.1 z1.2
  have m1 := mIn_put (S := S) (S' := mDoesS W2 i s (S 228 i)) (f := fun c => S 232 (4 * (i : Int) + c)) (fun t a b => ⟨(hm.1 t a b).1, by have := (hm.1 t a b).2; omega⟩) t6 z1.1 z1.2
  have key0 : (q4 (fun c => S 232 (4 * (i : Int) + c)) 0).1 = S 232 (4 * (i : Int)) := by
    show S 232 (4 * (i : Int) + 0) = _
    rw [Int.add_zero]
  refine ⟨1, e1, by rw [eL]; simp, fun x hx => ?_, r2, fun t y t0 t1 hn => ?_, fun t ρ' t0 t1 hρ => ?_, fun z => absurd h0 z, fun _ => ⟨rfl, fun x hx => ?_⟩, fun z => by omega, fun z => absurd h0 z, ⟨fun k hk => by rw [z1.1, if_neg (by omega)], fun z hz => by rw [z1.2, if_neg (by have := (hm.1 _ t6.1 t6.2); unfold mrow; omega)]⟩⟩
  · rw [eL] at hx
    rw [List.mem_singleton.mp hx]
    exact t6
  · refine cw_same hm r2 ⟨t0, t1⟩ (fun ρ e => (m1 t ρ t0 t1).trans ⟨fun z => z.elim id (fun ⟨a, b⟩ => absurd ?_ hn), Or.inl⟩)
    rw [eL, ← e, a, b, key0]
    exact List.mem_singleton.mpr rfl
  · rcases (m1 t ρ' t0 t1).mp hρ with z | ⟨a, b⟩
    · exact Or.inl ⟨ρ', z, rfl⟩
    · refine Or.inr ⟨h0, ?_⟩
      rw [eL, a, b, key0]
      exact List.mem_singleton.mpr rfl
  · rw [eL] at hx
    rw [List.mem_singleton.mp hx]
    exact ⟨cw_none hm t6 (fun ρ a b => (mfind_in hm t6).mpr ⟨ρ, a, b⟩ mf), rfl⟩
theorem ncl_st {w c v : Int} {ρ : Rw4} (hc : 1 ≤ c ∧ c < 4) : ncl w (st4 ρ c v) ≤ ncl w ρ + 1 := by
  have a1 := (nulw_le w 1 v).1
  have a2 := (nulw_le w 2 v).1
  have a3 := (nulw_le w 3 v).1
  unfold ncl
  rw [g4_st ⟨by decide, by decide⟩, g4_st ⟨by decide, by decide⟩, g4_st ⟨by decide, by decide⟩]
  have xs : c = 1 ∨ c = 2 ∨ c = 3 := by omega
  rcases xs with e | e | e <;> subst e
  · rw [if_pos rfl, if_neg (by decide), if_neg (by decide)]; omega
  · rw [if_neg (by decide), if_pos rfl, if_neg (by decide)]; omega
  · rw [if_neg (by decide), if_neg (by decide), if_pos rfl]; omega
theorem want_upd (h : TriH I S i l s) (h0 : S 227 i = 1) (hQ : mWantQ (up2 S 100 41 0) i) : updOk (alI I i) i ∧ wtL (mWantI (up2 S 100 41 0) i) 1 = [(S 228 i, S 229 i)] ∧ mWantI (up2 S 100 41 0) i 100 41 = ((1 : Nat) : Int) := by
  obtain ⟨hA, hcp, hpA, hrA⟩ := h.A
  have t6 := hA.t6
  obtain ⟨⟨hR, hS⟩, ⟨hE, hW⟩, ⟨hm, hk⟩, ⟨hs, h1⟩, hp, hrd, hn, h4⟩ := h
  have hu := hpA.2.2.2.2 h0
  obtain ⟨eW, eQ⟩ := mWant_u (I := up2 S 100 41 0) (i := (i : Int)) (by rw [s41 (by decide), h0]; decide) (by rw [s41 (by decide)]; exact h0)
  rw [s41 (by decide), s41 (by decide)] at eW eQ
  have e3 : ∀ o k, o ≠ 233 → o ≠ 234 → o ≠ 235 → mUpdS (up2 S 100 41 0) i o k = up2 S 100 41 0 o k := fun o k a b c => mUpdS_fr o k a b c
  have e41 : mUpdS (up2 S 100 41 0) i 100 41 = 0 := (e3 100 41 (by decide) (by decide) (by decide)).trans (up2_eq _ _ _ _)
  have fU : ∀ o, o ≠ 233 → o ≠ 234 → o ≠ 235 → o ≠ 100 → mUpdS (up2 S 100 41 0) i o = S o := fun o a b c d => funext (fun k => (e3 o k a b c).trans (by rw [s41 d]))
  have eQ' : mWantQ (up2 S 100 41 0) i ↔ updOk (alI I i) i := by
    rw [upd_ok hA hu]
    have e : mUpdOk (mUpdS (up2 S 100 41 0) i) (mwants (mUpdS (up2 S 100 41 0) i) (S 228 i) (S 229 i)) i ↔ (mfind S s (S 228 i) (S 229 i) ≠ -1 ∧ mSeen S (S 220 i) s (S 228 i) (mfind S s (S 228 i) (S 229 i)) ∧ mCheckOk S (S 228 i) (S 230 i) (S 231 i) ∧ mRefOk S s (S 228 i) (S 230 i) (S 231 i)) := by
      have fV : ∀ o, o ≠ 233 → o ≠ 234 → o ≠ 235 → o ≠ 100 → o ≠ 242 → o ≠ 243 → mwants (mUpdS (up2 S 100 41 0) i) (S 228 i) (S 229 i) o = S o := fun o a b c d e f => funext (fun k => (mwants_fr o k e f (Or.inl d)).trans (congrFun (fU o a b c d) k))
      have v100 : mwants (mUpdS (up2 S 100 41 0) i) (S 228 i) (S 229 i) 100 8 = S 100 8 := by
        rw [mwants_fr 100 8 (by decide) (by decide) (Or.inr (by decide)), e3 100 8 (by decide) (by decide) (by decide), up2_k _ _ _ _ (by decide)]
      unfold mUpdOk mSeen mCheckOk mRefOk mfind
      rw [v100, fU 214 (by decide) (by decide) (by decide) (by decide), fU 215 (by decide) (by decide) (by decide) (by decide), fU 223 (by decide) (by decide) (by decide) (by decide), fU 228 (by decide) (by decide) (by decide) (by decide), fU 229 (by decide) (by decide) (by decide) (by decide), fV 202 (by decide) (by decide) (by decide) (by decide) (by decide) (by decide), fV 203 (by decide) (by decide) (by decide) (by decide) (by decide) (by decide), fV 204 (by decide) (by decide) (by decide) (by decide) (by decide) (by decide), fV 205 (by decide) (by decide) (by decide) (by decide) (by decide) (by decide), fV 206 (by decide) (by decide) (by decide) (by decide) (by decide) (by decide), fV 209 (by decide) (by decide) (by decide) (by decide) (by decide) (by decide), fV 210 (by decide) (by decide) (by decide) (by decide) (by decide) (by decide), fV 211 (by decide) (by decide) (by decide) (by decide) (by decide) (by decide), fV 212 (by decide) (by decide) (by decide) (by decide) (by decide) (by decide), fV 213 (by decide) (by decide) (by decide) (by decide) (by decide) (by decide), fV 214 (by decide) (by decide) (by decide) (by decide) (by decide) (by decide), fV 215 (by decide) (by decide) (by decide) (by decide) (by decide) (by decide), fV 220 (by decide) (by decide) (by decide) (by decide) (by decide) (by decide), fV 223 (by decide) (by decide) (by decide) (by decide) (by decide) (by decide), fV 230 (by decide) (by decide) (by decide) (by decide) (by decide) (by decide), fV 231 (by decide) (by decide) (by decide) (by decide) (by decide) (by decide), hs]
    rw [← e]
    exact ⟨fun z => bIn (by rw [← eQ, bI1 z]; decide), fun z => bIn (by rw [eQ, bI1 z]; decide)⟩
  refine ⟨eQ'.mp hQ, ?_, by rw [eW, mwants_41, e41]; rfl⟩
  rw [eW]
  have := wtL_wants (W := mUpdS (up2 S 100 41 0) i) (t := S 228 i) (key := S 229 i) (n := 0) e41
  rw [Nat.zero_add] at this
  rw [this]; rfl
theorem wr_upd (h : TriH I S i l s) (h0 : S 227 i = 1) (hQ : mWantQ (up2 S 100 41 0) i) {W2 : IT} (hf : lgFr (mWantI (up2 S 100 41 0) i) W2) : WsF S (mDoesS W2 i s (S 228 i)) (mWantI (up2 S 100 41 0) i) i s := by
  obtain ⟨hok, eL, e1⟩ := want_upd h h0 hQ
  obtain ⟨hA, hcp, hpA, hrA⟩ := h.A
  have t6 := hA.t6
  obtain ⟨⟨hR, hS⟩, ⟨hE, hW⟩, ⟨hm, hk⟩, ⟨hs, h1⟩, hp, hrd, hn, h4⟩ := h
  have w4 := hS.2.1 (S 228 i) hp.2.1.1 hp.2.1.2
  have hu := hpA.2.2.2.2 h0
  obtain ⟨⟨g9, g10, g11⟩, hc, hv⟩ := hu
  obtain ⟨p1, ⟨p2, p3, p4⟩, p5, p6, p7, p8, p9⟩ := (seeP_eq hA g9).2 hok.2.1
  obtain ⟨z1, z2⟩ := mdoes_upd (W2 := W2) (s := s) (i := i) (S := S) hf (wantFr (S := S) (i := i)) h0
  have r2 := RWm.upd (S := S) (S' := mDoesS W2 i s (S 228 i)) hm ⟨p7, p8⟩ t6 ⟨hc.1, by omega⟩ hv z1.1 z1.2
  have m1 := mIn_upd (S := S) (S' := mDoesS W2 i s (S 228 i)) hm ⟨p7, p8⟩ t6 ⟨hc.1, by omega⟩ z1.1 z1.2
  rw [p9] at m1
  have hin : mIn S s (S 228 i) (q4 (S 215) (mrow s (S 228 i) (mfind S s (S 228 i) (S 229 i)))) := ⟨_, p7, p8, rfl⟩
  have kq : (q4 (S 215) (mrow s (S 228 i) (mfind S s (S 228 i) (S 229 i)))).1 = S 229 i := p9
  refine ⟨1, e1, by rw [eL]; simp, fun x hx => ?_, r2, fun t y t0 t1 hn => ?_, fun t ρ' t0 t1 hρ => ?_, fun _ x hx => ?_, fun z => by omega, fun _ => ⟨rfl, fun x hx => ?_⟩, fun _ z => absurd h0 z, ⟨fun k _ => z1.1 k, fun z hz => by rw [z1.2, if_neg (by have := (hm.1 _ t6.1 t6.2); unfold mrow; omega)]⟩⟩
  · rw [eL] at hx
    rw [List.mem_singleton.mp hx]
    exact t6
  · have nk : ∀ ρ : Rw4, ρ.1 = y → ¬ (t = S 228 i ∧ ρ.1 = S 229 i) := fun ρ e z => hn (by rw [eL, ← e, z.1, z.2]; exact List.mem_singleton.mpr rfl)
    refine cw_same hm r2 ⟨t0, t1⟩ (fun ρ e => ?_)
    rw [m1 t ρ t0 t1]
    constructor
    · rintro ⟨σ, a, b⟩
      by_cases z : t = S 228 i ∧ σ.1 = S 229 i
      · rw [if_pos z] at b
        exact absurd ⟨z.1, by rw [b, st4_1 hc.1]; exact z.2⟩ (nk ρ e)
      · rw [if_neg z] at b
        rw [b]; exact a
    · intro a
      exact ⟨ρ, a, by rw [if_neg (nk ρ e)]⟩
  · obtain ⟨σ, a, b⟩ := (m1 t ρ' t0 t1).mp hρ
    refine Or.inl ⟨σ, a, ?_⟩
    rw [b]
    split
    · rw [st4_1 hc.1]
    · rfl
  · rw [eL] at hx
    rw [List.mem_singleton.mp hx]
    exact ⟨_, hin, kq⟩
  · rw [eL] at hx
    rw [List.mem_singleton.mp hx]
    have before := cw_in (w := S 201 (S 228 i)) hm t6 hin
    have after := cw_in (w := S 201 (S 228 i)) r2 t6 ((m1 (S 228 i) _ t6.1 t6.2).mpr ⟨_, hin, rfl⟩)
    rw [if_pos ⟨rfl, kq⟩, st4_1 hc.1, kq] at after
    rw [kq] at before
    show cw (S 201 (S 228 i)) (mDoesS W2 i s (S 228 i)) s (S 228 i) (S 229 i) ≤ cw (S 201 (S 228 i)) S s (S 228 i) (S 229 i) + 1
    rw [after, before]
    exact ncl_st ⟨hc.1, by omega⟩
/-- what any allowed write writes -/
theorem wr_all (h : TriH I S i l s) (hQ : mWantQ (up2 S 100 41 0) i) {W2 : IT} (hf : lgFr (mWantI (up2 S 100 41 0) i) W2) : WsF S (mDoesS W2 i s (S 228 i)) (mWantI (up2 S 100 41 0) i) i s := by
  by_cases k0 : S 227 i = 0
  · exact wr_ins h k0 hQ hf
  · by_cases k1 : S 227 i = 1
    · exact wr_upd h k1 hQ hf
    · exact wr_del h k0 k1 hQ hf
end
