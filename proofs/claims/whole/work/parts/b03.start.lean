/-! Engine.start -/
section
variable {K : KT} {P : PT} {J I : IT} {n N g lq : Nat} {lv mv : Nat → Nat}
theorem ClW.ls {K' : KT} {P' : PT} (h : ClW K P) (hk : ∀ o, o < 2000 → K o ≠ none → K' o = K o) (hp : ∀ o, o < 2000 → o ≠ 1448 → P' o = P o) : ClW K' P' := by
  have lo : ∀ o, cnK o = true → o < 2000 := fun o ho => by
    unfold cnK at ho
    obtain ⟨x, hx, e⟩ := List.any_eq_true.mp ho
    have e := Nat.eq_of_beq_eq_true e
    have all : KCL.all (fun x => decide (x.1 < 2000)) = true := by decide
    have := of_decide_eq_true (List.all_eq_true.mp all x hx)
    omega
  refine ⟨fun x hx => ?_, fun x hx => ?_⟩
  · have := h.1 x hx
    rw [hk x.1 (lo _ (cn_K hx)) (by rw [this]; simp)]; exact this
  · have c : cnK x.1 = true := List.all_eq_true.mp cn_PK x hx
    have all : PCL.all (fun x => x.1 != 1448) = true := by decide
    have := List.all_eq_true.mp all x hx
    rw [hp x.1 (lo _ c) (by simpa using this)]
    exact h.2 x hx
/-- names not made yet -/
def FreeT (K : KT) (I : IT) (n : Nat) : Prop := ∀ j, n ≤ j → j < 60 → ∀ a, a < 128 → K (tX j + a) = none ∧ ∀ k, I (tX j + a) k = 0
def FreeL (P : PT) (b l : Nat) : Prop := ∀ j i, l < j → j < 20 → P (b + j) i = none
theorem start_ex {x : Int} (hB : CB K P I n N g lq lv mv) (hn : n < 60) (hK : FreeT K I n) (hL : FreeL P 12100 lq) :
    ∃ (lq' c z : Nat) (K' : KT) (P' : PT) (I' : IT) (lv' mv' : Nat → Nat), CB K' P' I' (n + 1) N g lq' lv' mv' ∧ BegI I I' n x ∧ (∀ j, j < n → lv' j = lv j ∧ mv' j = mv j) ∧ (lv' n = 0 ∧ mv' n = 0) ∧ (c + lq = 7 + lq' ∧ z + pl lq = 240 + pl lq') ∧ (∀ o, ¬ nTx n o → o ≠ 1448 → ¬ (12100 < o ∧ o < 12120) → K' o = K o ∧ P' o = P o ∧ I' o = I o) ∧ FreeL P' 12100 lq' ∧
      Sp m_Engine_start false ({ frames := 8, cells := c, slots := z, locals := 340 } : Room) (ex K' P' J I' (.inl (some (vI (n : Int))))) K P J I [vR (some 1064), vI x] := by
  have hC := hB.c
  have x0 : 2000 ≤ tX n ∧ tX n + 128 ≤ 10000 := by unfold tX; omega
  have f0 := fun a (h : a < 128) => (hK n (Nat.le_refl _) hn a h).1
  have z0 := fun a (h : a < 128) k => (hK n (Nat.le_refl _) hn a h).2 k
  have kn : K (tX n) = none := f0 0 (by decide)
  have zx : ∀ k, I (tX n) k = 0 := z0 0 (by decide)
  -- the names behind the making
  let K0 := upK K (tX n) (8, 0)
  let K1 := kTx K0 (tX n)
  let P1 := pTx P (tX n)
  let I1 := iTx I (tX n) n x (I 1064 7)
  let I2 := cpyI I1 1161 0 (tX n + 33) 0 192
  have ko : ∀ o, ¬ nTx n o → K1 o = K o := fun o h => by
    have d : ∀ b, b < 128 → o ≠ tX n + b := fun b hb e => h (by unfold nTx; omega)
    exact (upK_o _ _ (d 80 (by decide))).trans ((upK_o _ _ (d 60 (by decide))).trans ((upK_o _ _ (d 40 (by decide))).trans ((upK_o _ _ (d 13 (by decide))).trans ((upK_o _ _ (d 33 (by decide))).trans ((upK_o _ _ (d 32 (by decide))).trans (upK_o _ _ (d 0 (by decide))))))))
  have pO : ∀ o, ¬ nTx n o → P1 o = P o := fun o h => by
    have d : ∀ b, b < 128 → o ≠ tX n + b := fun b hb e => h (by unfold nTx; omega)
    funext k
    exact (up2_o _ _ _ _ (d 0 (by decide))).trans ((up2_o _ _ _ _ (d 0 (by decide))).trans ((up2_o _ _ _ _ (d 0 (by decide))).trans ((up2_o _ _ _ _ (d 0 (by decide))).trans ((up2_o _ _ _ _ (d 0 (by decide))).trans (up2_o _ _ _ _ (d 32 (by decide)))))))
  have i1x : ∀ k, I1 (tX n) k = if k = 2 then I 1064 7 else if k = 1 then x else if k = 0 then (n : Int) else if k = 6 then -1 else if k = 5 then -1 else if k = 4 then 0 else 0 := fun k => by
    have e33 : filI I (tX n + 33) 0 192 (-2147483648) (tX n) k = 0 := (if_neg (fun w => by omega)).trans (zx k)
    show up2 (up2 (up2 (up2 (up2 (up2 (filI I (tX n + 33) 0 192 (-2147483648)) (tX n) 4 0) (tX n) 5 (-1)) (tX n) 6 (-1)) (tX n) 0 n) (tX n) 1 x) (tX n) 2 (I 1064 7) (tX n) k = _
    by_cases c2 : k = 2
    · rw [if_pos c2, c2, up2_eq]
    · rw [if_neg c2, up2_k _ _ _ _ c2]
      by_cases c1 : k = 1
      · rw [if_pos c1, c1, up2_eq]
      · rw [if_neg c1, up2_k _ _ _ _ c1]
        by_cases c0 : k = 0
        · rw [if_pos c0, c0, up2_eq]
        · rw [if_neg c0, up2_k _ _ _ _ c0]
          by_cases c6 : k = 6
          · rw [if_pos c6, c6, up2_eq]
          · rw [if_neg c6, up2_k _ _ _ _ c6]
            by_cases c5 : k = 5
            · rw [if_pos c5, c5, up2_eq]
            · rw [if_neg c5, up2_k _ _ _ _ c5]
              by_cases c4 : k = 4
              · rw [if_pos c4, c4, up2_eq]
              · rw [if_neg c4, up2_k _ _ _ _ c4]; exact e33
  have e13 : I1 (tX n) 13 = 0 := (i1x 13).trans rfl
  have e14 : I1 (tX n) 14 = 0 := (i1x 14).trans rfl
  have e17 : I1 (tX n) 17 = 0 := (i1x 17).trans rfl
  have i1o : ∀ o, o ≠ tX n → o ≠ tX n + 33 → I1 o = I o := fun o h1 h2 => by
    funext k
    exact (up2_o _ _ _ _ h1).trans ((up2_o _ _ _ _ h1).trans ((up2_o _ _ _ _ h1).trans ((up2_o _ _ _ _ h1).trans ((up2_o _ _ _ _ h1).trans ((up2_o _ _ _ _ h1).trans (if_neg (fun w => h2 w.1)))))))
  have i2o : ∀ o, o ≠ tX n + 33 → I2 o = I1 o := fun o h => funext (fun k => if_neg (fun w => h w.1))
  have i2c : ∀ k, 0 ≤ k → k < 192 → I2 (tX n + 33) k = I 1161 k := fun k k0 k1 => by
    refine (if_pos ⟨rfl, k0, by omega⟩).trans ?_
    rw [i1o 1161 (by omega) (by omega), show 0 + (k - 0) = k by omega]
  have i2n : ∀ o, ¬ nTx n o → I2 o = I o := fun o h => (i2o o (fun e => h (by unfold nTx; omega))).trans (i1o o (fun e => h (by unfold nTx; omega)) (fun e => h (by unfold nTx; omega)))
  have i2x : ∀ k, I2 (tX n) k = I1 (tX n) k := fun k => by rw [i2o _ (by omega)]
  -- the shape of the new one
  have k1x : K1 (tX n) = some (8, 0) := (upK_o _ _ (by omega)).trans ((upK_o _ _ (by omega)).trans ((upK_o _ _ (by omega)).trans ((upK_o _ _ (by omega)).trans ((upK_o _ _ (by omega)).trans ((upK_o _ _ (by omega)).trans (upK_eq _ _ _))))))
  have k32 : K1 (tX n + 32) = some (6, 0) := (upK_o _ _ (by omega)).trans ((upK_o _ _ (by omega)).trans ((upK_o _ _ (by omega)).trans ((upK_o _ _ (by omega)).trans ((upK_o _ _ (by omega)).trans (upK_eq _ _ _)))))
  have k33 : K1 (tX n + 33) = some (100, 192) := (upK_o _ _ (by omega)).trans ((upK_o _ _ (by omega)).trans ((upK_o _ _ (by omega)).trans ((upK_o _ _ (by omega)).trans (upK_eq _ _ _))))
  have k13 : K1 (tX n + 13) = some (100, 4) := (upK_o _ _ (by omega)).trans ((upK_o _ _ (by omega)).trans ((upK_o _ _ (by omega)).trans (upK_eq _ _ _)))
  have k40 : K1 (tX n + 40) = some (100, 8) := (upK_o _ _ (by omega)).trans ((upK_o _ _ (by omega)).trans (upK_eq _ _ _))
  have k60 : K1 (tX n + 60) = some (100, 8) := (upK_o _ _ (by omega)).trans (upK_eq _ _ _)
  have k80 : K1 (tX n + 80) = some (100, 8) := upK_eq _ _ _
  have kz : ∀ b, b < 128 → b ≠ 0 → b ≠ 13 → b ≠ 32 → b ≠ 33 → b ≠ 40 → b ≠ 60 → b ≠ 80 → K1 (tX n + b) = none := fun b hb h0 h1 h2 h3 h4 h5 h6 => (upK_o _ _ (by omega)).trans ((upK_o _ _ (by omega)).trans ((upK_o _ _ (by omega)).trans ((upK_o _ _ (by omega)).trans ((upK_o _ _ (by omega)).trans ((upK_o _ _ (by omega)).trans ((upK_o _ _ (by omega)).trans (f0 b hb)))))))
  have pr : P1 (tX n) 3 = some (tX n + 32) := (up2_k _ _ _ _ (by decide)).trans ((up2_k _ _ _ _ (by decide)).trans ((up2_k _ _ _ _ (by decide)).trans ((up2_k _ _ _ _ (by decide)).trans (up2_eq _ _ _ _))))
  have pw : P1 (tX n) 12 = some (tX n + 13) := (up2_k _ _ _ _ (by decide)).trans ((up2_k _ _ _ _ (by decide)).trans ((up2_k _ _ _ _ (by decide)).trans (up2_eq _ _ _ _)))
  have pa : P1 (tX n) 15 = some (tX n + 40) := (up2_k _ _ _ _ (by decide)).trans ((up2_k _ _ _ _ (by decide)).trans (up2_eq _ _ _ _))
  have pb : P1 (tX n) 16 = some (tX n + 60) := (up2_k _ _ _ _ (by decide)).trans (up2_eq _ _ _ _)
  have pf' : P1 (tX n) 18 = some (tX n + 80) := up2_eq _ _ _ _
  have p32 : P1 (tX n + 32) 0 = some (tX n + 33) := (up2_o _ _ _ _ (by omega)).trans ((up2_o _ _ _ _ (by omega)).trans ((up2_o _ _ _ _ (by omega)).trans ((up2_o _ _ _ _ (by omega)).trans ((up2_o _ _ _ _ (by omega)).trans (up2_eq _ _ _ _)))))
  have TN : TxV K1 P1 n 0 0 := ⟨⟨k1x, pr, ⟨pw, k13⟩, ⟨pa, k40⟩, ⟨pb, k60⟩, ⟨pf', k80⟩⟩, ⟨k32, p32, k33⟩, fun j j0 j1 => ⟨by rw [Nat.add_assoc]; exact kz (40 + j) (by omega) (by omega) (by omega) (by omega) (by omega) (by omega) (by omega) (by omega), by rw [Nat.add_assoc]; exact kz (60 + j) (by omega) (by omega) (by omega) (by omega) (by omega) (by omega) (by omega) (by omega)⟩, fun j j0 j1 => by rw [Nat.add_assoc]; exact kz (80 + j) (by omega) (by omega) (by omega) (by omega) (by omega) (by omega) (by omega) (by omega), by decide, by decide⟩
  have C1 : ClW K1 P1 := hC.tx (show Fr (nTx n) K P I K1 P1 I from fun o ho => ⟨ko o ho, pO o ho, rfl⟩)
  have nn : ∀ o, (o < 2000 ∨ 10000 ≤ o) → ¬ nTx n o := fun o ho w => by unfold nTx at w; omega
  obtain ⟨⟨⟨a1, a2, a3⟩, b1, b2, b3, b4⟩, h60, el⟩ := hB.e
  have ld : ldn 12100 lq < 2000 ∨ 10000 ≤ ldn 12100 lq := by unfold ldn; split <;> omega
  have LS : LsV K1 P1 I2 1448 12100 lq n 8 := by
    refine ⟨⟨(ko _ (nn _ (by omega))).trans a1, (congrFun (pO _ (nn _ (by omega))) 1).trans a2, (ko _ (nn _ ld)).trans a3⟩, fun j j0 j1 => (ko _ (nn _ (by omega))).trans (b1 j j0 j1), b2, by rw [i2n 1448 (nn _ (by omega))]; exact b3, fun i q i0 i1 hq => ?_⟩
    rw [congrFun (pO _ (nn _ ld)) i] at hq
    obtain ⟨w, hw⟩ := b4 i q i0 i1 hq
    have eq := (el i.toNat (by omega)).1
    rw [show ((i.toNat : Nat) : Int) = i by omega, hq] at eq
    rw [Option.some.inj eq]
    exact ⟨0, (ko _ (fun w => by unfold nTx tX at w; omega)).trans (el i.toNat (by omega)).2.1.1⟩
  obtain ⟨lq', cc, zz, K', P', I', l1, l2, l3, l4, l5, l6, l7, l8, l9, spA⟩ := list_add (J := J) (e := tX n) LS k1x (show classes[8]? = some ("RowForge$Transaction", T8, 19) from rfl) (by decide) (by omega) (by omega) (by omega) (by omega) (fun j i j0 j1 => (congrFun (pO _ (nn _ (by omega))) i).trans (hL j i j0 j1))
  have l2' : ∀ o, o ≠ 1448 → ¬ (12100 < o ∧ o < 12120) → K' o = K1 o ∧ P' o = P1 o ∧ I' o = I2 o := fun o h1 h2 => l2 o (fun w => w.elim h1 (fun w => h2 (by omega)))
  have all : ∀ o, ¬ nTx n o → o ≠ 1448 → ¬ (12100 < o ∧ o < 12120) → K' o = K o ∧ P' o = P o ∧ I' o = I o := fun o h0 h1 h2 => by
    obtain ⟨y1, y2, y3⟩ := l2' o h1 h2
    exact ⟨y1.trans (ko o h0), y2.trans (pO o h0), y3.trans (i2n o h0)⟩
  have txn : ∀ o, nTx n o → K' o = K1 o ∧ P' o = P1 o ∧ I' o = I2 o := fun o ho => l2' o (fun e => by unfold nTx at ho; omega) (fun e => by unfold nTx at ho; omega)
  have xn := txn (tX n) (by unfold nTx; omega)
  obtain ⟨lv', mv', v1, v2⟩ : ∃ lv' mv' : Nat → Nat, (∀ j, j < n → lv' j = lv j ∧ mv' j = mv j) ∧ lv' n = 0 ∧ mv' n = 0 := ⟨fun j => if j = n then 0 else lv j, fun j => if j = n then 0 else mv j, fun j hj => ⟨if_neg (by omega), if_neg (by omega)⟩, if_pos rfl, if_pos rfl⟩
  have tx : ∀ j, j < n + 1 → TxV K' P' j (lv' j) (mv' j) ∧ TxN I' j (lv' j) (mv' j) ∧ I' (tX j) 17 ≤ 16384 := fun j hj => by
    by_cases e : j = n
    · subst e
      rw [v2.1, v2.2]
      refine ⟨TN.fl (fun o ho => ⟨(txn o ho).1, (txn o ho).2.1⟩), ?_, by rw [xn.2.2, i2x, e17]; decide⟩
      unfold TxN
      rw [xn.2.2, i2x, i2x, i2x, e13, e14, e17]
      refine ⟨by decide, by decide, fun p p0 p1 => ?_, by decide, fun p p0 p1 => ?_⟩
      · omega
      · omega
    · obtain ⟨y1, y2, y3⟩ := hB.t (show j < n by omega)
      have f : ∀ o, nTx j o → K' o = K o ∧ P' o = P o ∧ I' o = I o := fun o ho => by
        unfold nTx tX at ho
        exact all o (fun w => by unfold nTx tX at w; omega) (by omega) (by omega)
      rw [(v1 j (by omega)).1, (v1 j (by omega)).2]
      refine ⟨y1.fl (fun o ho => ⟨(f o ho).1, (f o ho).2.1⟩), y2.fl (hB.lev j (by omega)) (fun o ho => (f o ho).2.2), ?_⟩
      rw [(f (tX j) (by unfold nTx; omega)).2.2]; exact y3
  have LV : LgV K' P' g := by
    have e : ∀ o, (o = 1192 ∨ o = 1196 ∨ o = 1197 ∨ (12000 ≤ o ∧ o < 12020)) → K' o = K o ∧ P' o = P o := fun o ho => ⟨(all o (nn o (by omega)) (by omega) (by omega)).1, (all o (nn o (by omega)) (by omega) (by omega)).2.1⟩
    have hv := hB.v
    have g10 := hB.g10
    unfold LgV LgW at *
    rw [(e 1192 (by omega)).1, (e 1192 (by omega)).2, (e (12000 + g) (by omega)).1, (e 1196 (by omega)).1, (e 1197 (by omega)).1]
    exact ⟨hv.1, fun j j0 j1 => by rw [(e (12000 + j) (by omega)).1]; exact hv.2.1 j j0 j1, hv.2.2⟩
  refine ⟨lq', 7 + cc, 240 + zz, K', P', I', lv', mv', ⟨?_, ⟨LV, ?_⟩, ⟨l1, by omega, fun j hj => ⟨?_, (tx j hj).1⟩⟩, fun j hj => (tx j hj).2⟩, ⟨fun o h0 h1 h2 => (all o h0 h1 (by omega)).2.2, ?_, ?_, fun k k0 k1 => ?_⟩, v1, v2, ⟨by omega, by omega⟩, all, l9, ?_⟩
  · exact C1.ls (fun o ho hk => l3 o hk) (fun o ho h => (l2' o h (by omega)).2.1)
  · have := hB.l
    unfold LgN at *
    rw [(all 1192 (nn _ (by omega)) (by omega) (by omega)).2.2]; exact this
  · by_cases e : j = n
    · rw [e]; exact l6
    · rw [l5 j (by omega) (by omega), congrFun (pO _ (nn _ ld)) j]
      exact (el j (by omega)).1
  · rw [xn.2.2, i2x, i2x, i2x, i2x, i2x, i2x]
    exact ⟨(i1x 0).trans rfl, (i1x 1).trans rfl, (i1x 2).trans rfl, (i1x 4).trans rfl, (i1x 5).trans rfl, (i1x 6).trans rfl⟩
  · rw [xn.2.2, i2x, i2x, i2x]
    exact ⟨e13, e14, e17⟩
  · rw [(txn (tX n + 33) (by unfold nTx; omega)).2.2]; exact i2c k k0 k1
  refine Sp.ofV (by decide) (Or.inr rfl) rfl ?_
  have C0 : ClW K0 P := hC.tx (show Fr (nTx n) K P I K0 P I from fun o ho => ⟨upK_o _ _ (fun e => ho (by unfold nTx; omega)), rfl, rfl⟩)
  have k48 : K0 1448 = some (12, 0) := (upK_o _ _ (by omega)).trans a1
  have spZ : Sp m_java_util_ArrayList_size false (rmv 0 0) (ex K0 P J I (.inl (some (vI (n : Int))))) K0 P J I [vR (some 1448)] := by
    have := sp_java_util_ArrayList_size (J := J) (I := I) (P := P) k48
    rw [b3.1] at this
    exact this
  have spI := sp_Transaction_init (K := K0) (P := P) (J := J) (I := I) (x := tX n) (a := (n : Int)) (b := x) (c := I 1064 7) (upK_eq _ _ _) (fun j j0 j1 => (upK_o _ _ (by omega)).trans (f0 j j1))
  have spC : Sp m_Rows_copyFrom false (rmv 1 50) (ex K1 P1 J I2 (.inl none)) K1 P1 J I1 [vR (some (tX n + 32)), vR (some 1160)] := sp_Rows_copyFrom ⟨k32, p32, k33⟩ C1.st
  have kF : K' (tX n) = some (8, 0) := xn.1.trans k1x
  have iF : I' (tX n) 0 = (n : Int) := by rw [xn.2.2, i2x]; exact (i1x 0).trans rfl
  refine VW.new (tX n) (ci := 8) (T := T8) (N := 19) (ty := ty8) (pc' := 3) d_Engine_start_0 rfl lk_Engine_65 kw_instantiable_RowForge_Transaction_19 kw_initialized_RowForge_Transaction in8 tk8 rfl df8 (kn) (by exact (show 0 + 1 ≤ 7 + cc by omega)) (by exact (show 0 + 19 ≤ 240 + zz by omega)) ?_
  refine VW.dup (pc' := 4) d_Engine_start_3 rfl rfl ?_
  refine VW.aload_n (pc' := 5) d_Engine_start_4 rfl rfl ?_
  refine VW.gP (ci := 0) (T := T0) (N := 8) (k := 2) (k' := 2) (pc' := 8) d_Engine_start_5 rfl lk_Engine_21 in0 rfl rfl rfl rfl (by first | exact C0.k 9 rfl | exact C1.k 9 rfl | exact k1x | exact k32 | exact kF | exact k48 | exact (C1.k 53 rfl)) (by first | exact C0.p 17 rfl | exact C1.p 17 rfl | exact C0.p 16 rfl | exact C1.p 16 rfl | exact pr | exact iF | rfl) ?_
  refine VW.cV (ci := 12) (T := T12) (N := 3) (pc' := 11) d_Engine_start_8 rfl mv_java_util_ArrayList_size lk_Engine_57 rfl (by first | exact C0.k 9 rfl | exact C1.k 9 rfl | exact k1x | exact k32 | exact kF | exact k48 | exact (C1.k 53 rfl)) rfl rfl rfl (by exact (show 0 + 1 + 0 ≤ 7 + cc by omega)) (by exact (show 0 + 19 + 0 ≤ 240 + zz by omega)) (spZ) rfl rfl ?_
  refine VW.iload_n (pc' := 12) d_Engine_start_11 rfl rfl ?_
  refine VW.aload_n (pc' := 13) d_Engine_start_12 rfl rfl ?_
  refine VW.gI (ci := 0) (T := T0) (N := 8) (k := 7) (k' := 7) (pc' := 16) d_Engine_start_13 rfl lk_Engine_74 in0 rfl rfl rfl rfl (by first | exact C0.k 9 rfl | exact C1.k 9 rfl | exact k1x | exact k32 | exact kF | exact k48 | exact (C1.k 53 rfl)) (by first | exact C0.p 17 rfl | exact C1.p 17 rfl | exact C0.p 16 rfl | exact C1.p 16 rfl | exact pr | exact iF | rfl) ?_
  refine VW.cI (pc' := 19) d_Engine_start_16 rfl mi_Transaction_init lk_Engine_78 rfl rfl rfl (by exact (show 0 + 1 + 6 ≤ 7 + cc by omega)) (by exact (show 0 + 19 + 221 ≤ 240 + zz by omega)) (spI) rfl rfl ?_
  refine VW.astore_n (pc' := 20) d_Engine_start_19 rfl rfl ?_
  refine VW.aload_n (pc' := 21) d_Engine_start_20 rfl rfl ?_
  refine VW.gP (ci := 8) (T := T8) (N := 19) (k := 3) (k' := 3) (pc' := 24) d_Engine_start_21 rfl lk_Engine_81 in8 rfl rfl rfl rfl (by first | exact C0.k 9 rfl | exact C1.k 9 rfl | exact k1x | exact k32 | exact kF | exact k48 | exact (C1.k 53 rfl)) (by first | exact C0.p 17 rfl | exact C1.p 17 rfl | exact C0.p 16 rfl | exact C1.p 16 rfl | exact pr | exact iF | rfl) ?_
  refine VW.aload_n (pc' := 25) d_Engine_start_24 rfl rfl ?_
  refine VW.gP (ci := 0) (T := T0) (N := 8) (k := 1) (k' := 1) (pc' := 28) d_Engine_start_25 rfl lk_Engine_12 in0 rfl rfl rfl rfl (by first | exact C0.k 9 rfl | exact C1.k 9 rfl | exact k1x | exact k32 | exact kF | exact k48 | exact (C1.k 53 rfl)) (by first | exact C0.p 17 rfl | exact C1.p 17 rfl | exact C0.p 16 rfl | exact C1.p 16 rfl | exact pr | exact iF | rfl) ?_
  refine VW.cV (ci := 6) (T := T6) (N := 1) (pc' := 31) d_Engine_start_28 rfl mv_Rows_copyFrom lk_Engine_84 rfl (by first | exact C0.k 9 rfl | exact C1.k 9 rfl | exact k1x | exact k32 | exact kF | exact k48 | exact (C1.k 53 rfl)) rfl rfl rfl (by exact (show 0 + 1 + 6 + 0 ≤ 7 + cc by omega)) (by exact (show 0 + 19 + 221 + 0 ≤ 240 + zz by omega)) (spC) rfl rfl ?_
  refine VW.aload_n (pc' := 32) d_Engine_start_31 rfl rfl ?_
  refine VW.gP (ci := 0) (T := T0) (N := 8) (k := 2) (k' := 2) (pc' := 35) d_Engine_start_32 rfl lk_Engine_21 in0 rfl rfl rfl rfl (by first | exact C0.k 9 rfl | exact C1.k 9 rfl | exact k1x | exact k32 | exact kF | exact k48 | exact (C1.k 53 rfl)) (by first | exact C0.p 17 rfl | exact C1.p 17 rfl | exact C0.p 16 rfl | exact C1.p 16 rfl | exact pr | exact iF | rfl) ?_
  refine VW.aload_n (pc' := 36) d_Engine_start_35 rfl rfl ?_
  refine VW.cV (ci := 12) (T := T12) (N := 3) (pc' := 39) d_Engine_start_36 rfl mv_java_util_ArrayList_add lk_Engine_88 rfl (by first | exact C0.k 9 rfl | exact C1.k 9 rfl | exact k1x | exact k32 | exact kF | exact k48 | exact (C1.k 53 rfl)) rfl rfl rfl (by exact (show 0 + 1 + 6 + cc ≤ 7 + cc by omega)) (by exact (show 0 + 19 + 221 + zz ≤ 240 + zz by omega)) (spA) rfl rfl ?_
  refine VW.pop (pc' := 40) d_Engine_start_39 rfl rfl ?_
  refine VW.aload_n (pc' := 41) d_Engine_start_40 rfl rfl ?_
  refine VW.gI (ci := 8) (T := T8) (N := 19) (k := 0) (k' := 0) (pc' := 44) d_Engine_start_41 rfl lk_Engine_92 in8 rfl rfl rfl rfl (by first | exact C0.k 9 rfl | exact C1.k 9 rfl | exact k1x | exact k32 | exact kF | exact k48 | exact (C1.k 53 rfl)) (by first | exact C0.p 17 rfl | exact C1.p 17 rfl | exact C0.p 16 rfl | exact C1.p 16 rfl | exact pr | exact iF | rfl) ?_
  exact VW.iret d_Engine_start_44 rfl rfl (by exact (show 0 + 1 + 6 + cc ≤ 7 + cc by omega)) (by exact (show 0 + 19 + 221 + zz ≤ 240 + zz by omega)) ex_rf
end
