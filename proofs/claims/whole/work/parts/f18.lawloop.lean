/-! the law's loop -/
section
variable {Q : PE} {K : KT} {P : PT} {J I : IT} {c cs ns Lg : Nat} {i : Int} {xs : Int → Int}
theorem law_switch {z : Int} (h : LI c Lg xs K P J I cs ns) (c6 : 6 * c ≤ i) (hi : (0 ≤ i ∧ i + 6 ≤ Lg) ∧ Lg ≤ 3072) (nx : ∀ K P J I cs ns, (cs ≤ 603072 ∧ ns ≤ 7207018) → LI (c + 1) Lg xs K P J I cs ns → VL Q K P J I cs ns 3229 (Lw i) []) (nd : VL Q K P J I cs ns 3229 (Lw i) []) : VL Q K P J I cs ns 40 (Lw i) [vI z] := by
  by_cases e0 : z = 0
  · subst e0
    exact VE.tsIn (tgt := 244) d_Law_law_40 (by decide) (by decide) rfl (by decide) (walk_table h c6 hi nx)
  by_cases e1 : z = 1
  · subst e1
    exact VE.tsIn (tgt := 300) d_Law_law_40 (by decide) (by decide) rfl (by decide) (walk_check h c6 hi nx)
  by_cases e2 : z = 2
  · subst e2
    exact VE.tsIn (tgt := 392) d_Law_law_40 (by decide) (by decide) rfl (by decide) (walk_refer h c6 hi nx)
  by_cases e3 : z = 3
  · subst e3
    exact VE.tsIn (tgt := 464) d_Law_law_40 (by decide) (by decide) rfl (by decide) (walk_veil h c6 hi nx)
  by_cases e4 : z = 4
  · subst e4
    exact VE.tsIn (tgt := 568) d_Law_law_40 (by decide) (by decide) rfl (by decide) (walk_begin h c6 hi nx)
  by_cases e5 : z = 5
  · subst e5
    exact VE.tsIn (tgt := 624) d_Law_law_40 (by decide) (by decide) rfl (by decide) (walk_value h c6 hi nx)
  by_cases e6 : z = 6
  · subst e6
    exact VE.tsIn (tgt := 680) d_Law_law_40 (by decide) (by decide) rfl (by decide) (walk_insert h c6 hi nx)
  by_cases e7 : z = 7
  · subst e7
    exact VE.tsIn (tgt := 748) d_Law_law_40 (by decide) (by decide) rfl (by decide) (walk_update h c6 hi nx)
  by_cases e8 : z = 8
  · subst e8
    exact VE.tsIn (tgt := 852) d_Law_law_40 (by decide) (by decide) rfl (by decide) (walk_delete h c6 hi nx)
  by_cases e9 : z = 9
  · subst e9
    exact VE.tsIn (tgt := 932) d_Law_law_40 (by decide) (by decide) rfl (by decide) (walk_commit h c6 hi nx)
  by_cases e10 : z = 10
  · subst e10
    exact VE.tsIn (tgt := 988) d_Law_law_40 (by decide) (by decide) rfl (by decide) (walk_abort h c6 hi nx)
  by_cases e11 : z = 11
  · subst e11
    exact VE.tsIn (tgt := 1044) d_Law_law_40 (by decide) (by decide) rfl (by decide) (walk_state h c6 hi nx)
  by_cases e12 : z = 12
  · subst e12
    exact VE.tsIn (tgt := 1100) d_Law_law_40 (by decide) (by decide) rfl (by decide) (walk_outcome h c6 hi nx)
  by_cases e13 : z = 13
  · subst e13
    exact VE.tsIn (tgt := 1156) d_Law_law_40 (by decide) (by decide) rfl (by decide) (walk_waitsFor h c6 hi nx)
  by_cases e14 : z = 14
  · subst e14
    exact VE.tsIn (tgt := 1212) d_Law_law_40 (by decide) (by decide) rfl (by decide) (walk_hasRead h c6 hi nx)
  by_cases e15 : z = 15
  · subst e15
    exact VE.tsIn (tgt := 1299) d_Law_law_40 (by decide) (by decide) rfl (by decide) (walk_own h c6 hi nx)
  by_cases e16 : z = 16
  · subst e16
    exact VE.tsIn (tgt := 1391) d_Law_law_40 (by decide) (by decide) rfl (by decide) (walk_committed h c6 hi nx)
  by_cases e17 : z = 17
  · subst e17
    exact VE.tsIn (tgt := 1471) d_Law_law_40 (by decide) (by decide) rfl (by decide) (walk_committedByLog h c6 hi nx)
  by_cases e18 : z = 18
  · subst e18
    exact VE.tsIn (tgt := 1551) d_Law_law_40 (by decide) (by decide) rfl (by decide) (walk_rowsOf h c6 hi nx)
  by_cases e19 : z = 19
  · subst e19
    exact VE.tsIn (tgt := 1607) d_Law_law_40 (by decide) (by decide) rfl (by decide) (walk_scan h c6 hi nx)
  by_cases e20 : z = 20
  · subst e20
    exact VE.tsIn (tgt := 1663) d_Law_law_40 (by decide) (by decide) rfl (by decide) (walk_filter h c6 hi nx)
  by_cases e21 : z = 21
  · subst e21
    exact VE.tsIn (tgt := 1771) d_Law_law_40 (by decide) (by decide) rfl (by decide) (walk_filterColumns h c6 hi nx)
  by_cases e22 : z = 22
  · subst e22
    exact VE.tsIn (tgt := 1879) d_Law_law_40 (by decide) (by decide) rfl (by decide) (walk_ratio h c6 hi nx)
  by_cases e23 : z = 23
  · subst e23
    exact VE.tsIn (tgt := 1959) d_Law_law_40 (by decide) (by decide) rfl (by decide) (walk_join h c6 hi nx)
  by_cases e24 : z = 24
  · subst e24
    exact VE.tsIn (tgt := 2039) d_Law_law_40 (by decide) (by decide) rfl (by decide) (walk_keep h c6 hi nx)
  by_cases e25 : z = 25
  · subst e25
    exact VE.tsIn (tgt := 2095) d_Law_law_40 (by decide) (by decide) rfl (by decide) (walk_group h c6 hi nx)
  by_cases e26 : z = 26
  · subst e26
    exact VE.tsIn (tgt := 2175) d_Law_law_40 (by decide) (by decide) rfl (by decide) (walk_combine h c6 hi nx)
  by_cases e27 : z = 27
  · subst e27
    exact VE.tsIn (tgt := 2231) d_Law_law_40 (by decide) (by decide) rfl (by decide) (walk_scrap h c6 hi nx)
  by_cases e28 : z = 28
  · subst e28
    exact VE.tsIn (tgt := 2244) d_Law_law_40 (by decide) (by decide) rfl (by decide) (walk_query h c6 hi nx)
  by_cases e29 : z = 29
  · subst e29
    exact VE.tsIn (tgt := 2288) d_Law_law_40 (by decide) (by decide) rfl (by decide) (walk_run h c6 hi nx)
  by_cases e30 : z = 30
  · subst e30
    exact VE.tsIn (tgt := 2356) d_Law_law_40 (by decide) (by decide) rfl (by decide) (walk_at h c6 hi nx)
  by_cases e31 : z = 31
  · subst e31
    exact VE.tsIn (tgt := 2424) d_Law_law_40 (by decide) (by decide) rfl (by decide) (walk_atByLoops h c6 hi nx)
  by_cases e32 : z = 32
  · subst e32
    exact VE.tsIn (tgt := 2516) d_Law_law_40 (by decide) (by decide) rfl (by decide) (walk_analyze h c6 hi nx)
  by_cases e33 : z = 33
  · subst e33
    exact VE.tsIn (tgt := 2529) d_Law_law_40 (by decide) (by decide) rfl (by decide) (walk_prepare h c6 hi nx)
  by_cases e34 : z = 34
  · subst e34
    exact VE.tsIn (tgt := 2585) d_Law_law_40 (by decide) (by decide) rfl (by decide) (walk_planAt h c6 hi nx)
  by_cases e35 : z = 35
  · subst e35
    exact VE.tsIn (tgt := 2653) d_Law_law_40 (by decide) (by decide) rfl (by decide) (walk_planned h c6 hi nx)
  by_cases e36 : z = 36
  · subst e36
    exact VE.tsIn (tgt := 2666) d_Law_law_40 (by decide) (by decide) rfl (by decide) (walk_view h c6 hi nx)
  by_cases e37 : z = 37
  · subst e37
    exact VE.tsIn (tgt := 2722) d_Law_law_40 (by decide) (by decide) rfl (by decide) (walk_viewRows h c6 hi nx)
  by_cases e38 : z = 38
  · subst e38
    exact VE.tsIn (tgt := 2778) d_Law_law_40 (by decide) (by decide) rfl (by decide) (walk_viewAt h c6 hi nx)
  by_cases e39 : z = 39
  · subst e39
    exact VE.tsIn (tgt := 2858) d_Law_law_40 (by decide) (by decide) rfl (by decide) (walk_viewAnew h c6 hi nx)
  by_cases e40 : z = 40
  · subst e40
    exact VE.tsIn (tgt := 2938) d_Law_law_40 (by decide) (by decide) rfl (by decide) (walk_checkpoint h c6 hi nx)
  by_cases e41 : z = 41
  · subst e41
    exact VE.tsIn (tgt := 2951) d_Law_law_40 (by decide) (by decide) rfl (by decide) (walk_crash h c6 hi nx)
  by_cases e42 : z = 42
  · subst e42
    exact VE.tsIn (tgt := 3007) d_Law_law_40 (by decide) (by decide) rfl (by decide) (walk_records h c6 hi nx)
  by_cases e43 : z = 43
  · subst e43
    exact VE.tsIn (tgt := 3020) d_Law_law_40 (by decide) (by decide) rfl (by decide) (walk_flushed h c6 hi nx)
  by_cases e44 : z = 44
  · subst e44
    exact VE.tsIn (tgt := 3033) d_Law_law_40 (by decide) (by decide) rfl (by decide) (walk_recordKind h c6 hi nx)
  by_cases e45 : z = 45
  · subst e45
    exact VE.tsIn (tgt := 3089) d_Law_law_40 (by decide) (by decide) rfl (by decide) (walk_recordOf h c6 hi nx)
  by_cases e46 : z = 46
  · subst e46
    exact VE.tsIn (tgt := 3145) d_Law_law_40 (by decide) (by decide) rfl (by decide) (walk_recordAt h c6 hi nx)
  exact VE.tsOut (tgt := 3229) d_Law_law_40 (by omega) (by decide) nd
/-- the law's loop, from its head -/
theorem law_loop {Q : PE} (hLg : Lg ≤ 3072) (hQ : ∀ K P J I cs ns, LwK K P I Lg xs → (cs ≤ 603072 ∧ ns ≤ 7207018) → Q (.inl (some (vI 1))) K P J I cs ns) : ∀ (t c : Nat) (i : Int) (K : KT) (P : PT) (J I : IT) (cs ns : Nat), (Lg : Int) - i < 6 * t → 0 ≤ i → i ≤ 4000 → 6 * c ≤ i → (cs ≤ 603072 ∧ ns ≤ 7207018) → LI c Lg xs K P J I cs ns → VL Q K P J I cs ns 23 (Lw i) [] := by
  intro t
  induction t with
  | zero =>
    intro c i K P J I cs ns ht i0 i4 c6 hc h
    refine VE.iload (pc' := 25) d_Law_law_23 rfl rfl ?_
    refine VE.aload_n (o := 49) (pc' := 26) d_Law_law_25 rfl rfl ?_
    refine VE.slen (N := Lg) (pc' := 27) d_Law_law_26 rfl h.1.2.2.2.1 (by omega) ?_
    refine VE.bipush (pc' := 29) d_Law_law_27 rfl ⟨by decide, by decide⟩ ?_
    refine VE.isub (pc' := 30) d_Law_law_29 rfl ⟨by omega, by omega⟩ ?_
    refine VE.icmp_gt (tgt := 3235) (pc' := 33) d_Law_law_30 (by decide) rfl (fun _ => ?_) (fun e => by omega)
    refine VE.iconst (pc' := 3236) d_Law_law_3235 rfl ⟨by decide, by decide⟩ ?_
    exact VE.iret (ty := .boolean) d_Law_law_3236 rfl rfl hc.1 hc.2 (hQ _ _ _ _ _ _ h.1 hc)
  | succ t ih =>
    intro c i K P J I cs ns ht i0 i4 c6 hc h
    refine VE.iload (pc' := 25) d_Law_law_23 rfl rfl ?_
    refine VE.aload_n (o := 49) (pc' := 26) d_Law_law_25 rfl rfl ?_
    refine VE.slen (N := Lg) (pc' := 27) d_Law_law_26 rfl h.1.2.2.2.1 (by omega) ?_
    refine VE.bipush (pc' := 29) d_Law_law_27 rfl ⟨by decide, by decide⟩ ?_
    refine VE.isub (pc' := 30) d_Law_law_29 rfl ⟨by omega, by omega⟩ ?_
    refine VE.icmp_gt (tgt := 3235) (pc' := 33) d_Law_law_30 (by decide) rfl (fun _ => ?_) (fun e => ?_)
    · refine VE.iconst (pc' := 3236) d_Law_law_3235 rfl ⟨by decide, by decide⟩ ?_
      exact VE.iret (ty := .boolean) d_Law_law_3236 rfl rfl hc.1 hc.2 (hQ _ _ _ _ _ _ h.1 hc)
    · refine VE.aload_n (o := 49) (pc' := 34) d_Law_law_33 rfl rfl ?_
      refine VE.iload (pc' := 36) d_Law_law_34 rfl rfl ?_
      refine VE.sld (pc' := 37) d_Law_law_36 rfl h.1.2.2.2.1 i0 (by omega) ?_
      rw [h.1.2.2.2.2]
      refine VE.bipush (pc' := 39) d_Law_law_37 rfl ⟨by decide, by decide⟩ ?_
      refine VE.iand (z := (Int32.ofInt (xs i) &&& Int32.ofInt 63).toInt) (pc' := 40) d_Law_law_39 rfl ⟨Int32.le_toInt _, Int32.toInt_le _⟩ (Int32.ofInt_toInt _).symm ?_
      have back : ∀ (c2 : Nat) (K : KT) (P : PT) (J I : IT) (cs ns : Nat), 6 * (c2 : Int) ≤ i + 6 → (cs ≤ 603072 ∧ ns ≤ 7207018) → LI c2 Lg xs K P J I cs ns → VL Q K P J I cs ns 3229 (Lw i) [] := fun c2 K P J I cs ns c7 hc h => by
        refine VE.iinc (a := i) (pc' := 3232) d_Law_law_3229 rfl rfl rfl ⟨by omega, by omega⟩ ?_
        refine VE.goto (pc' := 23) d_Law_law_3232 (by decide) ?_
        refine VE.pick [0, 1, 2, 3, 4] ?_
        exact ih c2 (i + 6) K P J I cs ns (by omega) (by omega) (by omega) c7 hc h
      exact law_switch h c6 ⟨⟨i0, by omega⟩, hLg⟩ (fun K P J I cs ns hc h => back (c + 1) K P J I cs ns (by omega) hc h) (back c K P J I cs ns (by omega) hc h)
end
