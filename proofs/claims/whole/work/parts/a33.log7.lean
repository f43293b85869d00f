section
variable {K : KT} {P : PT} {J I : IT}
/-- a record is a WRITE of i -/
def lgW (I : IT) (g : Nat) (i : Int) (r : Nat) : Prop := lgF I g r 0 = 0 ∧ lgF I g r 1 = i
/-- what undoing writes, of the first k records, when u of the last ones are undone already -/
noncomputable def undL (I : IT) (g : Nat) (i : Int) : Nat → Nat → List (Int → Int)
  | 0, _ => []
  | k + 1, u => if bI (lgW I g i k) = 1 then (match u with
    | 0 => rcN 2 i (lgF I g k 2) (lgF I g k 3) :: undL I g i k 0
    | u + 1 => undL I g i k u) else undL I g i k u
theorem undL_no {g k u : Nat} {i : Int} (h : ¬ lgW I g i k) : undL I g i (k + 1) u = undL I g i k u := if_neg (by rw [bI0 h]; decide)
theorem undL_y0 {g k : Nat} {i : Int} (h : lgW I g i k) : undL I g i (k + 1) 0 = rcN 2 i (lgF I g k 2) (lgF I g k 3) :: undL I g i k 0 := if_pos (bI1 h)
theorem undL_y1 {g k u : Nat} {i : Int} (h : lgW I g i k) : undL I g i (k + 1) (u + 1) = undL I g i k u := if_pos (bI1 h)
theorem undL_len {g : Nat} {i : Int} : ∀ k u : Nat, (undL I g i k u).length ≤ k := by
  intro k
  induction k with
  | zero => intro u; exact Nat.le_refl _
  | succ k ih =>
    intro u
    by_cases h : lgW I g i k
    · cases u with
      | zero => rw [undL_y0 h, List.length_cons]; have := ih 0; omega
      | succ u => rw [undL_y1 h]; have := ih u; omega
    · rw [undL_no h]; have := ih u; omega
theorem lgUnd_F {g n : Nat} {i : Int} : lgUnd I (12000 + g) i n = cntI (fun k => lgF I g k 0 = 2 ∧ lgF I g k 1 = i) n := by
  unfold lgUnd lgF
  have : (fun k : Int => I (12000 + g) (k * 8) = 2 ∧ I (12000 + g) (k * 8 + 1) = i) = (fun k : Int => I (12000 + g) (k * 8 + 0) = 2 ∧ I (12000 + g) (k * 8 + 1) = i) := by
    funext k
    rw [Int.add_zero]
  rw [this]
end
theorem undo_loop {I0 J : IT} {g0 n0 : Nat} {i : Int} :
    ∀ (k : Nat) (u md : Nat) (g n : Nat) (K : KT) (P : PT) (I : IT), k ≤ n0 → n0 ≤ n → n + (undL I0 g0 i k u).length < 16384 → (∀ (r : Nat) f, r < n0 → 0 ≤ f → f < 8 → lgF I g r f = lgF I0 g0 r f) → LgV K P g → LgN I g n → md + k ≤ 40000 → u ≤ 16384 →
    ∃ (g' c m : Nat) (K' : KT) (P' : PT) (I' : IT), (LgV K' P' g' ∧ LgN I' g' (n + (undL I0 g0 i k u).length + 1)) ∧ Fr nLg K P I K' P' I' ∧ (c + g = g' ∧ m + lgP g = lgP g') ∧ LgX I I' g g' n (undL I0 g0 i k u ++ [rcN 3 i (-2147483648) (-2147483648)]) ∧
      ∀ C N cs ns : Nat, cs + c ≤ C → ns + m ≤ N → VW m_Log_undoWrites false ({ frames := 4, cells := C, slots := N, locals := 160 } : Room) (ex K' P' J I' (.inl (some (vI (((md + (undL I0 g0 i k u).length : Nat) : Int)))))) K P J I cs ns 16 [(0, vR (some 1192)), (1, vI i), (2, vI (u : Int)), (3, vI (md : Int)), (4, vI ((k : Int) - 1))] [] := by
  intro k
  induction k with
  | zero =>
    intro u md g n K P I hk hn hlen hI hV hN hmd hu
    obtain ⟨g', c, m, K', P', I', ⟨v1, v2⟩, f1, r1, a1, sp⟩ := log_add (J := J) (k := 3) (i := i) (t := -2147483648) (y := -2147483648) hV hN (by have : (undL I0 g0 i 0 u).length = 0 := rfl; omega)
    refine ⟨g', c, m, K', P', I', ⟨v1, v2⟩, f1, r1, LgX.one a1, fun C N cs ns hC hN' => ?_⟩
    have hz : ((md : Nat) : Int) = (((md + (undL I0 g0 i 0 u).length : Nat)) : Int) := rfl
    refine VW.iload (pc' := 18) d_Log_undoWrites_16 rfl rfl ?_
    refine VW.if_lt (tgt := 80) (pc' := 21) d_Log_undoWrites_18 rfl rfl (fun c18 => ?_) (fun c18 => ?_)
    case refine_2 => exact absurd c18 (by omega)
    refine VW.aload_n (pc' := 81) d_Log_undoWrites_80 rfl rfl ?_
    refine VW.iconst (pc' := 82) d_Log_undoWrites_81 rfl (by decide) ?_
    refine VW.iload_n (pc' := 83) d_Log_undoWrites_82 rfl rfl ?_
    refine VW.ldc (pc' := 85) (z := -2147483648) d_Log_undoWrites_83 rfl lk_Log_32 (by decide) (by decide) ?_
    refine VW.ldc (pc' := 87) (z := -2147483648) d_Log_undoWrites_85 rfl lk_Log_32 (by decide) (by decide) ?_
    refine VW.cV (ci := 2) (T := T2) (N := 5) (pc' := 90) d_Log_undoWrites_87 rfl mv_Log_add lk_Log_37 rfl (hV.1.1) rfl rfl rfl (by show cs + c ≤ C; omega) (by show ns + m ≤ N; omega) (sp) rfl rfl ?_
    refine VW.iload_n (pc' := 91) d_Log_undoWrites_90 rfl rfl ?_
    exact VW.iret d_Log_undoWrites_91 rfl rfl (by show cs + c ≤ C; omega) (by show ns + m ≤ N; omega) ex_rf
  | succ k ih =>
    intro u md g n K P I hk hn hlen hI hV hN hmd hu
    have hb := lg_big hV.2.2
    have h0 : I 1192 0 = n := hN.1
    have h8 := hN.2
    have ek : ((k + 1 : Nat) : Int) - 1 = k := by omega
    rw [ek]
    have F0 := hI k 0 (by omega) (by decide) (by decide)
    have F1 := hI k 1 (by omega) (by decide) (by decide)
    have F2 := hI k 2 (by omega) (by decide) (by decide)
    have F3 := hI k 3 (by omega) (by decide) (by decide)
    by_cases hw : lgW I0 g0 i k
    · have w0 : I (12000 + g) ((k : Int) * 8) = 0 := by
        have : lgF I g k 0 = 0 := F0.trans hw.1
        unfold lgF at this
        rw [Int.add_zero] at this; exact this
      have w1 : I (12000 + g) ((k : Int) * 8 + 1) = i := F1.trans hw.2
      cases u with
      | zero =>
        rw [undL_y0 hw, List.length_cons] at hlen
        have w2 : I (12000 + g) ((k : Int) * 8 + 2) = lgF I0 g0 k 2 := F2
        have w3 : I (12000 + g) ((k : Int) * 8 + 3) = lgF I0 g0 k 3 := F3
        obtain ⟨g1, c1, m1, K1, P1, I1, ⟨v1, v2⟩, f1, r1, a1, sp⟩ := log_add (J := J) (k := 2) (i := i) (t := lgF I0 g0 k 2) (y := lgF I0 g0 k 3) hV hN (by omega)
        obtain ⟨g', c, m, K', P', I', q1, q2, q3, q4, q5⟩ := ih 0 (md + 1) g1 (n + 1) K1 P1 I1 (by omega) (by omega) (by omega) (fun r f hr f0 f1' => (a1.1 r f (by omega) f0 f1').trans (hI r f hr f0 f1')) v1 v2 (by omega) (by omega)
        rw [undL_y0 hw, List.length_cons, List.cons_append]
        rw [show n + 1 + (undL I0 g0 i k 0).length + 1 = n + ((undL I0 g0 i k 0).length + 1) + 1 by omega] at q1
        refine ⟨g', c1 + c, m1 + m, K', P', I', q1, f1.tr q2, ⟨by omega, by omega⟩, LgX.tr (LgX.one a1) q4, fun C N cs ns hC hN' => ?_⟩
        have n9 := q5 C N (cs + c1) (ns + m1) (by omega) (by omega)
        rw [show ((md + 1 + (undL I0 g0 i k 0).length : Nat) : Int) = ((md + ((undL I0 g0 i k 0).length + 1) : Nat) : Int) by omega, show ((md + 1 : Nat) : Int) = (md : Int) + 1 by omega] at n9
        rw [← w2, ← w3] at sp
        clear ih q5
        refine VW.iload (pc' := 18) d_Log_undoWrites_16 rfl rfl ?_
        refine VW.if_lt (tgt := 80) (pc' := 21) d_Log_undoWrites_18 rfl rfl (fun c18 => ?_) (fun c18 => ?_)
        case refine_1 => exact absurd c18 (by omega)
        refine VW.aload_n (pc' := 22) d_Log_undoWrites_21 rfl rfl ?_
        refine VW.iload (pc' := 24) d_Log_undoWrites_22 rfl rfl ?_
        refine VW.cV (ci := 2) (T := T2) (N := 5) (pc' := 27) d_Log_undoWrites_24 rfl mv_Log_kindOf lk_Log_63 rfl (hV.1.1) rfl rfl rfl (by show cs + 0 ≤ C; omega) (by show ns + 0 ≤ N; omega) (sp_Log_kindOf hV.1 (by omega)) rfl rfl ?_
        refine VW.if_ne (tgt := 74) (pc' := 30) d_Log_undoWrites_27 rfl rfl (fun c27 => ?_) (fun c27 => ?_)
        case refine_1 => exact absurd c27 (by omega)
        refine VW.aload_n (pc' := 31) d_Log_undoWrites_30 rfl rfl ?_
        refine VW.iload (pc' := 33) d_Log_undoWrites_31 rfl rfl ?_
        refine VW.cV (ci := 2) (T := T2) (N := 5) (pc' := 36) d_Log_undoWrites_33 rfl mv_Log_writerOf lk_Log_66 rfl (hV.1.1) rfl rfl rfl (by show cs + 0 ≤ C; omega) (by show ns + 0 ≤ N; omega) (sp_Log_writerOf hV.1 (by omega)) rfl rfl ?_
        refine VW.iload_n (pc' := 37) d_Log_undoWrites_36 rfl rfl ?_
        refine VW.icmp_eq (tgt := 43) (pc' := 40) d_Log_undoWrites_37 rfl rfl (fun c37 => ?_) (fun c37 => ?_)
        case refine_2 => exact absurd c37 (by omega)
        refine VW.iload_n (pc' := 44) d_Log_undoWrites_43 rfl rfl ?_
        refine VW.if_le (tgt := 53) (pc' := 47) d_Log_undoWrites_44 rfl rfl (fun c44 => ?_) (fun c44 => ?_)
        case refine_2 => exact absurd c44 (by omega)
        refine VW.aload_n (pc' := 54) d_Log_undoWrites_53 rfl rfl ?_
        refine VW.iconst (pc' := 55) d_Log_undoWrites_54 rfl (by decide) ?_
        refine VW.iload_n (pc' := 56) d_Log_undoWrites_55 rfl rfl ?_
        refine VW.aload_n (pc' := 57) d_Log_undoWrites_56 rfl rfl ?_
        refine VW.iload (pc' := 59) d_Log_undoWrites_57 rfl rfl ?_
        refine VW.cV (ci := 2) (T := T2) (N := 5) (pc' := 62) d_Log_undoWrites_59 rfl mv_Log_tableOf lk_Log_72 rfl (hV.1.1) rfl rfl rfl (by show cs + 0 ≤ C; omega) (by show ns + 0 ≤ N; omega) (sp_Log_tableOf hV.1 (by omega)) rfl rfl ?_
        refine VW.aload_n (pc' := 63) d_Log_undoWrites_62 rfl rfl ?_
        refine VW.iload (pc' := 65) d_Log_undoWrites_63 rfl rfl ?_
        refine VW.cV (ci := 2) (T := T2) (N := 5) (pc' := 68) d_Log_undoWrites_65 rfl mv_Log_keyOf lk_Log_75 rfl (hV.1.1) rfl rfl rfl (by show cs + 0 ≤ C; omega) (by show ns + 0 ≤ N; omega) (sp_Log_keyOf hV.1 (by omega)) rfl rfl ?_
        refine VW.cV (ci := 2) (T := T2) (N := 5) (pc' := 71) d_Log_undoWrites_68 rfl mv_Log_add lk_Log_37 rfl (hV.1.1) rfl rfl rfl (by show cs + c1 ≤ C; omega) (by show ns + m1 ≤ N; omega) (sp) rfl rfl ?_
        refine VW.iinc (pc' := 74) d_Log_undoWrites_71 rfl rfl rfl (by omega) ?_
        refine VW.iinc (pc' := 77) d_Log_undoWrites_74 rfl rfl rfl (by omega) ?_
        refine VW.goto (pc' := 16) d_Log_undoWrites_77 rfl ?_
        refine VW.pick [0, 1, 2, 3, 4] ?_
        exact n9
      | succ u =>
        rw [undL_y1 hw] at hlen
        obtain ⟨g', c, m, K', P', I', q1, q2, q3, q4, q5⟩ := ih u md g n K P I (by omega) hn hlen hI hV hN (by omega) (by omega)
        rw [undL_y1 hw]
        refine ⟨g', c, m, K', P', I', q1, q2, q3, q4, fun C N cs ns hC hN' => ?_⟩
        have n9 := q5 C N cs ns hC hN'
        rw [show ((u + 1 : Nat) : Int) = (u : Int) + 1 by omega]
        have eu : (u : Int) + 1 + (-1) = u := by omega
        clear ih q5
        refine VW.iload (pc' := 18) d_Log_undoWrites_16 rfl rfl ?_
        refine VW.if_lt (tgt := 80) (pc' := 21) d_Log_undoWrites_18 rfl rfl (fun c18 => ?_) (fun c18 => ?_)
        case refine_1 => exact absurd c18 (by omega)
        refine VW.aload_n (pc' := 22) d_Log_undoWrites_21 rfl rfl ?_
        refine VW.iload (pc' := 24) d_Log_undoWrites_22 rfl rfl ?_
        refine VW.cV (ci := 2) (T := T2) (N := 5) (pc' := 27) d_Log_undoWrites_24 rfl mv_Log_kindOf lk_Log_63 rfl (hV.1.1) rfl rfl rfl (by show cs + 0 ≤ C; omega) (by show ns + 0 ≤ N; omega) (sp_Log_kindOf hV.1 (by omega)) rfl rfl ?_
        refine VW.if_ne (tgt := 74) (pc' := 30) d_Log_undoWrites_27 rfl rfl (fun c27 => ?_) (fun c27 => ?_)
        case refine_1 => exact absurd c27 (by omega)
        refine VW.aload_n (pc' := 31) d_Log_undoWrites_30 rfl rfl ?_
        refine VW.iload (pc' := 33) d_Log_undoWrites_31 rfl rfl ?_
        refine VW.cV (ci := 2) (T := T2) (N := 5) (pc' := 36) d_Log_undoWrites_33 rfl mv_Log_writerOf lk_Log_66 rfl (hV.1.1) rfl rfl rfl (by show cs + 0 ≤ C; omega) (by show ns + 0 ≤ N; omega) (sp_Log_writerOf hV.1 (by omega)) rfl rfl ?_
        refine VW.iload_n (pc' := 37) d_Log_undoWrites_36 rfl rfl ?_
        refine VW.icmp_eq (tgt := 43) (pc' := 40) d_Log_undoWrites_37 rfl rfl (fun c37 => ?_) (fun c37 => ?_)
        case refine_2 => exact absurd c37 (by omega)
        refine VW.iload_n (pc' := 44) d_Log_undoWrites_43 rfl rfl ?_
        refine VW.if_le (tgt := 53) (pc' := 47) d_Log_undoWrites_44 rfl rfl (fun c44 => ?_) (fun c44 => ?_)
        case refine_1 => exact absurd c44 (by omega)
        refine VW.iinc (pc' := 50) d_Log_undoWrites_47 rfl rfl rfl (by omega) ?_
        refine VW.goto (pc' := 74) d_Log_undoWrites_50 rfl ?_
        refine VW.iinc (pc' := 77) d_Log_undoWrites_74 rfl rfl rfl (by omega) ?_
        refine VW.goto (pc' := 16) d_Log_undoWrites_77 rfl ?_
        refine VW.pick [0, 1, 2, 3, 4] ?_
        rw [eu]
        exact n9
    · rw [undL_no hw] at hlen
      obtain ⟨g', c, m, K', P', I', q1, q2, q3, q4, q5⟩ := ih u md g n K P I (by omega) hn hlen hI hV hN (by omega) hu
      rw [undL_no hw]
      refine ⟨g', c, m, K', P', I', q1, q2, q3, q4, fun C N cs ns hC hN' => ?_⟩
      have n9 := q5 C N cs ns hC hN'
      have w0 : I (12000 + g) ((k : Int) * 8) = 0 → I (12000 + g) ((k : Int) * 8 + 1) ≠ i := fun h1 h2 => hw ⟨F0.symm.trans (by unfold lgF; rw [Int.add_zero]; exact h1), F1.symm.trans h2⟩
      clear ih q5
      by_cases w1 : I (12000 + g) ((k : Int) * 8) = 0
      · have w2 := w0 w1
        refine VW.iload (pc' := 18) d_Log_undoWrites_16 rfl rfl ?_
        refine VW.if_lt (tgt := 80) (pc' := 21) d_Log_undoWrites_18 rfl rfl (fun c18 => ?_) (fun c18 => ?_)
        case refine_1 => exact absurd c18 (by omega)
        refine VW.aload_n (pc' := 22) d_Log_undoWrites_21 rfl rfl ?_
        refine VW.iload (pc' := 24) d_Log_undoWrites_22 rfl rfl ?_
        refine VW.cV (ci := 2) (T := T2) (N := 5) (pc' := 27) d_Log_undoWrites_24 rfl mv_Log_kindOf lk_Log_63 rfl (hV.1.1) rfl rfl rfl (by show cs + 0 ≤ C; omega) (by show ns + 0 ≤ N; omega) (sp_Log_kindOf hV.1 (by omega)) rfl rfl ?_
        refine VW.if_ne (tgt := 74) (pc' := 30) d_Log_undoWrites_27 rfl rfl (fun c27 => ?_) (fun c27 => ?_)
        case refine_1 => exact absurd c27 (by omega)
        refine VW.aload_n (pc' := 31) d_Log_undoWrites_30 rfl rfl ?_
        refine VW.iload (pc' := 33) d_Log_undoWrites_31 rfl rfl ?_
        refine VW.cV (ci := 2) (T := T2) (N := 5) (pc' := 36) d_Log_undoWrites_33 rfl mv_Log_writerOf lk_Log_66 rfl (hV.1.1) rfl rfl rfl (by show cs + 0 ≤ C; omega) (by show ns + 0 ≤ N; omega) (sp_Log_writerOf hV.1 (by omega)) rfl rfl ?_
        refine VW.iload_n (pc' := 37) d_Log_undoWrites_36 rfl rfl ?_
        refine VW.icmp_eq (tgt := 43) (pc' := 40) d_Log_undoWrites_37 rfl rfl (fun c37 => ?_) (fun c37 => ?_)
        case refine_1 => exact absurd c37 (by omega)
        refine VW.goto (pc' := 74) d_Log_undoWrites_40 rfl ?_
        refine VW.iinc (pc' := 77) d_Log_undoWrites_74 rfl rfl rfl (by omega) ?_
        refine VW.goto (pc' := 16) d_Log_undoWrites_77 rfl ?_
        refine VW.pick [0, 1, 2, 3, 4] ?_
        exact n9
      · clear w0
        refine VW.iload (pc' := 18) d_Log_undoWrites_16 rfl rfl ?_
        refine VW.if_lt (tgt := 80) (pc' := 21) d_Log_undoWrites_18 rfl rfl (fun c18 => ?_) (fun c18 => ?_)
        case refine_1 => exact absurd c18 (by omega)
        refine VW.aload_n (pc' := 22) d_Log_undoWrites_21 rfl rfl ?_
        refine VW.iload (pc' := 24) d_Log_undoWrites_22 rfl rfl ?_
        refine VW.cV (ci := 2) (T := T2) (N := 5) (pc' := 27) d_Log_undoWrites_24 rfl mv_Log_kindOf lk_Log_63 rfl (hV.1.1) rfl rfl rfl (by show cs + 0 ≤ C; omega) (by show ns + 0 ≤ N; omega) (sp_Log_kindOf hV.1 (by omega)) rfl rfl ?_
        refine VW.if_ne (tgt := 74) (pc' := 30) d_Log_undoWrites_27 rfl rfl (fun c27 => ?_) (fun c27 => ?_)
        case refine_2 => exact absurd c27 (by omega)
        refine VW.iinc (pc' := 77) d_Log_undoWrites_74 rfl rfl rfl (by omega) ?_
        refine VW.goto (pc' := 16) d_Log_undoWrites_77 rfl ?_
        refine VW.pick [0, 1, 2, 3, 4] ?_
        exact n9
section
variable {K : KT} {P : PT} {J I : IT}
theorem undo_ex {g n u : Nat} {i : Int} (hV : LgV K P g) (hN : LgN I g n) (hw : ∀ k : Int, 0 ≤ k → k < n → (I (12000 + g) (k * 8) = 0 ∨ I (12000 + g) (k * 8) = 1 ∨ I (12000 + g) (k * 8) = 3) → 0 ≤ I (12000 + g) (k * 8 + 1) ∧ I (12000 + g) (k * 8 + 1) < 60) (hu : (u : Int) = cntI (fun k => lgF I g k 0 = 2 ∧ lgF I g k 1 = i) n) (hl : n + (undL I g i n u).length < 16384) :
    ∃ (g' c m : Nat) (K' : KT) (P' : PT) (I' : IT), (LgV K' P' g' ∧ LgN I' g' (n + (undL I g i n u).length + 1)) ∧ Fr nLg K P I K' P' I' ∧ (c + g = g' ∧ m + lgP g = lgP g') ∧ LgX I I' g g' n (undL I g i n u ++ [rcN 3 i (-2147483648) (-2147483648)]) ∧
      Sp m_Log_undoWrites false ({ frames := 4, cells := c, slots := m, locals := 160 } : Room) (ex K' P' J I' (.inl (some (vI ((undL I g i n u).length : Int))))) K P J I [vR (some 1192), vI i] := by
  have cr := cntI_rg (fun k => lgF I g k 0 = 2 ∧ lgF I g k 1 = i) n
  obtain ⟨g', c, m, K', P', I', q1, q2, q3, q4, q5⟩ := undo_loop (J := J) (I0 := I) (g0 := g) (n0 := n) (i := i) n u 0 g n K P I (Nat.le_refl _) (Nat.le_refl _) hl (fun _ _ _ _ _ => rfl) hV hN (by omega) (by omega)
  refine ⟨g', c, m, K', P', I', q1, q2, q3, q4, ?_⟩
  have l9 := q5 c m 0 0 (by omega) (by omega)
  rw [Nat.zero_add] at l9
  have h0 := hN.1
  have hb := lg_big hV.2.2
  have h8 := hN.2
  have eu : lgUnd I (12000 + g) i (I 1192 0).toNat = u := by
    rw [h0, lgUnd_F, hu]; rfl
  refine Sp.ofV (by decide) (Or.inr rfl) rfl ?_
  refine VW.aload_n (pc' := 1) d_Log_undoWrites_0 rfl rfl ?_
  refine VW.iload_n (pc' := 2) d_Log_undoWrites_1 rfl rfl ?_
  refine VW.cV (ci := 2) (T := T2) (N := 5) (pc' := 5) d_Log_undoWrites_2 rfl mv_Log_countUndone lk_Log_69 rfl (hV.1.1) rfl rfl rfl (Nat.zero_le _) (Nat.zero_le _) (sp_Log_countUndone hV.1 ⟨by omega, by rw [h0]; exact hw⟩) rfl rfl ?_
  refine VW.istore_n (pc' := 6) d_Log_undoWrites_5 rfl rfl ?_
  refine VW.iconst (pc' := 7) d_Log_undoWrites_6 rfl (by decide) ?_
  refine VW.istore_n (pc' := 8) d_Log_undoWrites_7 rfl rfl ?_
  refine VW.aload_n (pc' := 9) d_Log_undoWrites_8 rfl rfl ?_
  refine VW.gI (ci := 2) (T := T2) (N := 5) (k := 0) (k' := 0) (pc' := 12) d_Log_undoWrites_9 rfl lk_Log_22 in2 rfl rfl rfl rfl (hV.1.1) (by first | exact h0 | rfl) ?_
  refine VW.iconst (pc' := 13) d_Log_undoWrites_12 rfl (by decide) ?_
  refine VW.isub (pc' := 14) d_Log_undoWrites_13 rfl (by omega) ?_
  refine VW.istore (pc' := 16) d_Log_undoWrites_14 rfl rfl ?_
  refine VW.pick [0, 1, 2, 3, 4] ?_
  rw [eu]
  exact l9
end
