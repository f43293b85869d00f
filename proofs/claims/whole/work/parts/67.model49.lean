section
variable {K : KT} {P : PT} {J I : IT} {Q : PQ}
def isTwo (op : Int) : Prop := op = 4 ∨ op = 7
abbrev NST : Type := List (Int × Int)
def nA (st : NST) : Int × Int := st.headD (0, 0)
def nB (st : NST) : Int × Int := st.tail.headD (0, 0)
/-- what an operator takes, and the width of what it gives -/
def nLft (op : Int) (st : NST) : Int := if op = 4 ∨ op = 7 then (nB st).1 else if op = 0 then -1 else (nA st).1
def nRgt (op : Int) (st : NST) : Int := if op = 4 ∨ op = 7 then (nA st).1 else -1
def nWid (I : IT) (x : Int) (st : NST) : Int := if I 256 x = 5 then mCnt (I 257 x) 31 else if I 256 x = 6 then 2 else if I 256 x = 0 then I 201 (I 257 x) else if I 256 x = 4 then (if I 257 x ≤ 2 then (nB st).2 + (nA st).2 else (nB st).2) else if I 256 x = 7 then (nB st).2 else (nA st).2
def nRest (op : Int) (st : NST) : NST := if op = 4 ∨ op = 7 then st.tail.tail else if op = 0 then st else st.tail
/-- nodes and widths that wait to be taken, after k operators from x on -/
def nsW (I : IT) (x : Int) : Nat → NST
  | 0 => []
  | k + 1 => ((k : Int), nWid I (x + k) (nsW I x k)) :: nRest (I 256 (x + k)) (nsW I x k)
def StN (T : IT) : NST → Prop
  | [] => True
  | e :: st => (T 283 st.length = e.1 ∧ T 281 e.1 = e.2) ∧ StN T st
theorem nsW_lt {x : Int} : ∀ k : Nat, ∀ e ∈ nsW I x k, 0 ≤ e.1 ∧ e.1 < k := by
  intro k
  induction k with
  | zero => intro e he; cases he
  | succ k ih =>
    intro e he
    rcases List.mem_cons.1 he with z | z
    · rw [z]; show 0 ≤ (k : Int) ∧ (k : Int) < ((k + 1 : Nat) : Int); omega
    · have : e ∈ nsW I x k := by
        unfold nRest at z
        split at z
        · exact List.mem_of_mem_tail (List.mem_of_mem_tail z)
        · split at z
          · exact z
          · exact List.mem_of_mem_tail z
      have := ih e this
      omega
theorem StN.of {T U : IT} {k : Int} : ∀ st : NST, StN T st → (∀ e ∈ st, 0 ≤ e.1 ∧ e.1 < k) → (∀ q, q < k → U 281 q = T 281 q) → (∀ q : Int, 0 ≤ q → q < st.length → U 283 q = T 283 q) → StN U st := by
  intro st
  induction st with
  | nil => intro _ _ _ _; exact trivial
  | cons e st ih =>
    intro h he f g
    have l : ((e :: st : NST).length : Int) = (st.length : Int) + 1 := by show ((st.length + 1 : Nat) : Int) = _; omega
    refine ⟨⟨(g _ (by omega) (by omega)).trans h.1.1, (f _ (he e List.mem_cons_self).2).trans h.1.2⟩, ih h.2 (fun d hd => he d (List.mem_cons_of_mem _ hd)) f (fun q q0 q1 => g q q0 (by omega))⟩
/-- finding the nodes: k are done -/
def NI (I T : IT) (x : Int) (k : Nat) : Prop :=
  (∀ (o : Nat) (q : Int), o ≠ 279 → o ≠ 280 → o ≠ 281 → o ≠ 283 → T o q = I o q) ∧ StN T (nsW I x k) ∧
  ∀ j : Nat, j < k → T 279 j = nLft (I 256 (x + j)) (nsW I x j) ∧ T 280 j = nRgt (I 256 (x + j)) (nsW I x j) ∧ T 281 j = nWid I (x + j) (nsW I x j)
theorem NI.step {T U : IT} {x : Int} {k : Nat} (h : NI I T x k) (h1 : U 279 k = nLft (I 256 (x + k)) (nsW I x k)) (h2 : U 280 k = nRgt (I 256 (x + k)) (nsW I x k)) (h3 : U 281 k = nWid I (x + k) (nsW I x k)) (h4 : U 283 (nRest (I 256 (x + k)) (nsW I x k)).length = k) (f : ∀ (o : Nat) (q : Int), o ≠ 279 → o ≠ 280 → o ≠ 281 → o ≠ 283 → U o q = T o q) (g : ∀ (o : Nat) (q : Int), (o = 279 ∨ o = 280 ∨ o = 281) → q ≠ k → U o q = T o q) (g4 : ∀ q : Int, q < (nRest (I 256 (x + k)) (nsW I x k)).length → U 283 q = T 283 q) : NI I U x (k + 1) := by
  have hsub : ∀ st : NST, StN T st → StN T st.tail := fun st hs => by cases st with
    | nil => exact trivial
    | cons e st => exact hs.2
  have hr : StN T (nRest (I 256 (x + k)) (nsW I x k)) := by
    unfold nRest
    split
    · exact hsub _ (hsub _ h.2.1)
    · split
      · exact h.2.1
      · exact hsub _ h.2.1
  refine ⟨fun o q o1 o2 o3 o4 => (f o q o1 o2 o3 o4).trans (h.1 o q o1 o2 o3 o4), ⟨⟨h4, h3⟩, StN.of (k := (k : Int)) _ hr (fun e he => ?_) (fun q hq => g 281 q (Or.inr (Or.inr rfl)) (by omega)) (fun q _ hq => g4 q hq)⟩, fun j hj => ?_⟩
  · have := nsW_lt (I := I) (x := x) (k + 1) e (List.mem_cons_of_mem _ he)
    refine nsW_lt (I := I) (x := x) k e ?_
    unfold nRest at he
    split at he
    · exact List.mem_of_mem_tail (List.mem_of_mem_tail he)
    · split at he
      · exact he
      · exact List.mem_of_mem_tail he
  · by_cases e : j = k
    · subst e; exact ⟨h1, h2, h3⟩
    · have := h.2.2 j (by omega)
      exact ⟨(g 279 j (Or.inl rfl) (by omega)).trans this.1, (g 280 j (Or.inr (Or.inl rfl)) (by omega)).trans this.2.1, (g 281 j (Or.inr (Or.inr rfl)) (by omega)).trans this.2.2⟩
/-- each operator of a query finds what it takes, and widths are within 10 -/
def NOK (I : IT) (q : Int) (n : Nat) : Prop := (I 262 q = n ∧ n ≤ 12) ∧ ∀ k : Nat, k < n → (isTwo (I 256 (12 * (q + 1) + k)) → 2 ≤ (nsW I (12 * (q + 1)) k).length) ∧ (I 256 (12 * (q + 1) + k) ≠ 0 → 1 ≤ (nsW I (12 * (q + 1)) k).length) ∧ (nsW I (12 * (q + 1)) k).length ≤ 12 ∧ (∀ e ∈ nsW I (12 * (q + 1)) k, 0 ≤ e.2 ∧ e.2 ≤ 10) ∧ (I 256 (12 * (q + 1) + k) = 0 → 0 ≤ I 257 (12 * (q + 1) + k) ∧ I 257 (12 * (q + 1) + k) < 6) ∧ (I 256 (12 * (q + 1) + k) = 5 → 0 ≤ I 257 (12 * (q + 1) + k) ∧ I 257 (12 * (q + 1) + k) ≤ 2000)
theorem sp_Model_findsNodes {q : Int} {n : Nat} (hM : MW K P) (hb : MB I) (hq : 0 ≤ q ∧ q < 20) (hk : NOK I q n) : Sp m_Model_findsNodes false (rmv 1 22) (exU K P J (.inl none) (fun U => NI I U (12 * (q + 1)) n)) K P J I [vR (some 100), vI q] := by
  refine Sp.ofV (by decide) (Or.inr rfl) rfl ?_
  obtain ⟨⟨hz, hn⟩, hE⟩ := hk
  have loop : ∀ (l k : Nat) (T : IT), k + l = n → NI I T (12 * (q + 1)) k → VW m_Model_findsNodes false (rmv 1 22) (exU K P J (.inl none) (fun U => NI I U (12 * (q + 1)) n)) K P J T 0 0 4 [(0, vR (some 100)), (1, vI q), (2, vI ((nsW I (12 * (q + 1)) k).length : Int)), (3, vI (k : Int))] [] := by
    intro l
    induction l with
    | zero =>
      intro k T hk hT
      have ek : k = n := by omega
      subst ek
      have g262 : T 262 q = k := (hT.1 262 q (by decide) (by decide) (by decide) (by decide)).trans hz
      clear hE
      refine VW.iload_n (pc' := 5) d_Model_findsNodes_4 rfl rfl ?_
      refine VW.aload_n (pc' := 6) d_Model_findsNodes_5 rfl rfl ?_
      refine VW.gP (ci := 11) (T := T11) (N := 94) (k := 62) (k' := 62) (pc' := 9) d_Model_findsNodes_6 rfl lk_Model_159 in11 rfl rfl rfl rfl (hM.k rfl) (hM.p (r := some 262) 62 rfl rfl) ?_
      refine VW.iload_n (pc' := 10) d_Model_findsNodes_9 rfl rfl ?_
      refine VW.ild (pc' := 11) d_Model_findsNodes_10 rfl (hM.k rfl) (by omega) (by omega) (by first | exact g262 | rfl) ?_
      refine VW.icmp_ge (tgt := 265) (pc' := 14) d_Model_findsNodes_11 rfl rfl (fun c11 => ?_) (fun c11 => ?_)
      · exact VW.vret d_Model_findsNodes_265 rfl (Nat.zero_le _) (Nat.zero_le _) (exU_mk hT)
      · exfalso; omega
    | succ l ih =>
      intro k T hk hT
      have g262 : T 262 q = n := (hT.1 262 q (by decide) (by decide) (by decide) (by decide)).trans hz
      have g256 : ∀ a b c d : Int, up2 (up2 T 279 a b) 280 c d 256 (12 * (q + 1) + (k : Int)) = I 256 (12 * (q + 1) + (k : Int)) := fun a b c d => (up2_o _ _ _ _ (by decide)).trans ((up2_o _ _ _ _ (by decide)).trans (hT.1 256 _ (by decide) (by decide) (by decide) (by decide)))
      obtain ⟨p2, p1, p12, pw, p0, p5⟩ := hE k (by omega)
      have lt := nsW_lt (I := I) (x := 12 * (q + 1)) k
      have ek : ((k + 1 : Nat) : Int) = (k : Int) + 1 := by omega
      have fr := hT.1
      have c201 := hb.col (I 257 (12 * (q + 1) + (k : Int)))
      have fin : ∀ (U : IT) (w n' : Int), n' = (nRest (I 256 (12 * (q + 1) + (k : Int))) (nsW I (12 * (q + 1)) k)).length → n' ≤ 12 → U 279 k = nLft (I 256 (12 * (q + 1) + (k : Int))) (nsW I (12 * (q + 1)) k) → U 280 k = nRgt (I 256 (12 * (q + 1) + (k : Int))) (nsW I (12 * (q + 1)) k) → (∀ (o : Nat) (z : Int), o ≠ 279 → o ≠ 280 → U o z = T o z) → (∀ (o : Nat) (z : Int), (o = 279 ∨ o = 280) → z ≠ k → U o z = T o z) → (I 256 (12 * (q + 1) + (k : Int)) ≠ 5 → I 256 (12 * (q + 1) + (k : Int)) ≠ 6 → w = nWid I (12 * (q + 1) + (k : Int)) (nsW I (12 * (q + 1)) k)) → VW m_Model_findsNodes false (rmv 1 22) (exU K P J (.inl none) (fun U => NI I U (12 * (q + 1)) n)) K P J U 0 0 201 [(0, vR (some 100)), (1, vI q), (2, vI n'), (3, vI (k : Int)), (4, vI (12 * (q + 1) + (k : Int))), (5, vI w)] [] := by
        intro U w n' e' l12 u1 u2 uf ug hw
        have h256 : U 256 (12 * (q + 1) + (k : Int)) = I 256 (12 * (q + 1) + (k : Int)) := (uf 256 _ (by decide) (by decide)).trans (fr 256 _ (by decide) (by decide) (by decide) (by decide))
        have h257 : U 257 (12 * (q + 1) + (k : Int)) = I 257 (12 * (q + 1) + (k : Int)) := (uf 257 _ (by decide) (by decide)).trans (fr 257 _ (by decide) (by decide) (by decide) (by decide))
        have nx : ∀ W, W = nWid I (12 * (q + 1) + (k : Int)) (nsW I (12 * (q + 1)) k) → VW m_Model_findsNodes false (rmv 1 22) (exU K P J (.inl none) (fun U => NI I U (12 * (q + 1)) n)) K P J (up2 (up2 U 281 k W) 283 n' k) 0 0 4 [(0, vR (some 100)), (1, vI q), (2, vI (n' + 1)), (3, vI ((k : Int) + 1))] [] := fun W hW => by
          have s := ih (k + 1) (up2 (up2 U 281 k W) 283 n' k) (by omega) (hT.step ((up2_o _ _ _ _ (by decide)).trans ((up2_o _ _ _ _ (by decide)).trans u1)) ((up2_o _ _ _ _ (by decide)).trans ((up2_o _ _ _ _ (by decide)).trans u2)) ((up2_o _ _ _ _ (by decide)).trans ((up2_eq _ _ _ _).trans hW)) (by rw [← e']; exact up2_eq _ _ _ _) (fun o z o1 o2 o3 o4 => (up2_o _ _ _ _ o4).trans ((up2_o _ _ _ _ o3).trans (uf o z o1 o2))) (fun o z ho hz1 => (if_neg (by omega)).trans ((if_neg (by omega)).trans (by
            rcases ho with e | e | e
            · exact ug o z (Or.inl e) hz1
            · exact ug o z (Or.inr e) hz1
            · exact uf o z (by omega) (by omega)))) (fun z hz1 => by
            rw [up2_k _ _ _ _ (by omega), up2_o _ _ _ _ (by decide)]
            exact uf 283 z (by decide) (by decide)))
          rw [ek, show (((nsW I (12 * (q + 1)) (k + 1)).length : Nat) : Int) = n' + 1 by rw [e']; show (((nRest (I 256 (12 * (q + 1) + (k : Int))) (nsW I (12 * (q + 1)) k)).length + 1 : Nat) : Int) = _; omega] at s
          exact s
        have e5 : I 256 (12 * (q + 1) + (k : Int)) = 5 → mCnt (I 257 (12 * (q + 1) + (k : Int))) 31 = nWid I (12 * (q + 1) + (k : Int)) (nsW I (12 * (q + 1)) k) := fun z => (if_pos z).symm
        have e6 : I 256 (12 * (q + 1) + (k : Int)) ≠ 5 → I 256 (12 * (q + 1) + (k : Int)) = 6 → 2 = nWid I (12 * (q + 1) + (k : Int)) (nsW I (12 * (q + 1)) k) := fun z z2 => ((if_neg z).trans (if_pos z2)).symm
        clear ih hT hE uf ug fr u1 u2
        refine VW.aload_n (pc' := 202) d_Model_findsNodes_201 rfl rfl ?_
        refine VW.gP (ci := 11) (T := T11) (N := 94) (k := 81) (k' := 81) (pc' := 205) d_Model_findsNodes_202 rfl lk_Model_200 in11 rfl rfl rfl rfl (hM.k rfl) (hM.p (r := some 281) 81 rfl rfl) ?_
        refine VW.iload_n (pc' := 206) d_Model_findsNodes_205 rfl rfl ?_
        refine VW.aload_n (pc' := 207) d_Model_findsNodes_206 rfl rfl ?_
        refine VW.gP (ci := 11) (T := T11) (N := 94) (k := 56) (k' := 56) (pc' := 210) d_Model_findsNodes_207 rfl lk_Model_144 in11 rfl rfl rfl rfl (hM.k rfl) (hM.p (r := some 256) 56 rfl rfl) ?_
        refine VW.iload (pc' := 212) d_Model_findsNodes_210 rfl rfl ?_
        refine VW.ild (pc' := 213) d_Model_findsNodes_212 rfl (hM.k rfl) (by omega) (by omega) (by first | exact h256 | exact h257 | rfl) ?_
        refine VW.iconst (pc' := 214) d_Model_findsNodes_213 rfl (by decide) ?_
        refine VW.icmp_ne (tgt := 230) (pc' := 217) d_Model_findsNodes_214 rfl rfl (fun c214 => ?_) (fun c214 => ?_)
        · refine VW.aload_n (pc' := 231) d_Model_findsNodes_230 rfl rfl ?_
          refine VW.gP (ci := 11) (T := T11) (N := 94) (k := 56) (k' := 56) (pc' := 234) d_Model_findsNodes_231 rfl lk_Model_144 in11 rfl rfl rfl rfl (hM.k rfl) (hM.p (r := some 256) 56 rfl rfl) ?_
          refine VW.iload (pc' := 236) d_Model_findsNodes_234 rfl rfl ?_
          refine VW.ild (pc' := 237) d_Model_findsNodes_236 rfl (hM.k rfl) (by omega) (by omega) (by first | exact h256 | exact h257 | rfl) ?_
          refine VW.bipush (pc' := 239) d_Model_findsNodes_237 rfl (by decide) ?_
          refine VW.icmp_ne (tgt := 246) (pc' := 242) d_Model_findsNodes_239 rfl rfl (fun c239 => ?_) (fun c239 => ?_)
          · refine VW.iload (pc' := 248) d_Model_findsNodes_246 rfl rfl ?_
            refine VW.iast (pc' := 249) d_Model_findsNodes_248 rfl (hM.k rfl) (by omega) (by omega) ?_
            refine VW.aload_n (pc' := 250) d_Model_findsNodes_249 rfl rfl ?_
            refine VW.gP (ci := 11) (T := T11) (N := 94) (k := 83) (k' := 83) (pc' := 253) d_Model_findsNodes_250 rfl lk_Model_206 in11 rfl rfl rfl rfl (hM.k rfl) (hM.p (r := some 283) 83 rfl rfl) ?_
            refine VW.iload_n (pc' := 254) d_Model_findsNodes_253 rfl rfl ?_
            refine VW.iload_n (pc' := 255) d_Model_findsNodes_254 rfl rfl ?_
            refine VW.iast (pc' := 256) d_Model_findsNodes_255 rfl (hM.k rfl) (by omega) (by omega) ?_
            refine VW.iinc (pc' := 259) d_Model_findsNodes_256 rfl rfl rfl (by omega) ?_
            refine VW.iinc (pc' := 262) d_Model_findsNodes_259 rfl rfl rfl (by omega) ?_
            refine VW.goto (pc' := 4) d_Model_findsNodes_262 rfl ?_
            refine VW.pick [0, 1, 2, 3] ?_
            first | exact nx _ (e5 c214) | exact nx _ (e6 c214 c239) | exact nx _ (hw c214 c239)
          · refine VW.iconst (pc' := 243) d_Model_findsNodes_242 rfl (by decide) ?_
            refine VW.goto (pc' := 248) d_Model_findsNodes_243 rfl ?_
            refine VW.iast (pc' := 249) d_Model_findsNodes_248 rfl (hM.k rfl) (by omega) (by omega) ?_
            refine VW.aload_n (pc' := 250) d_Model_findsNodes_249 rfl rfl ?_
            refine VW.gP (ci := 11) (T := T11) (N := 94) (k := 83) (k' := 83) (pc' := 253) d_Model_findsNodes_250 rfl lk_Model_206 in11 rfl rfl rfl rfl (hM.k rfl) (hM.p (r := some 283) 83 rfl rfl) ?_
            refine VW.iload_n (pc' := 254) d_Model_findsNodes_253 rfl rfl ?_
            refine VW.iload_n (pc' := 255) d_Model_findsNodes_254 rfl rfl ?_
            refine VW.iast (pc' := 256) d_Model_findsNodes_255 rfl (hM.k rfl) (by omega) (by omega) ?_
            refine VW.iinc (pc' := 259) d_Model_findsNodes_256 rfl rfl rfl (by omega) ?_
            refine VW.iinc (pc' := 262) d_Model_findsNodes_259 rfl rfl rfl (by omega) ?_
            refine VW.goto (pc' := 4) d_Model_findsNodes_262 rfl ?_
            refine VW.pick [0, 1, 2, 3] ?_
            first | exact nx _ (e5 c214) | exact nx _ (e6 c214 c239) | exact nx _ (hw c214 c239)
        · refine VW.aload_n (pc' := 218) d_Model_findsNodes_217 rfl rfl ?_
          refine VW.gP (ci := 11) (T := T11) (N := 94) (k := 57) (k' := 57) (pc' := 221) d_Model_findsNodes_218 rfl lk_Model_147 in11 rfl rfl rfl rfl (hM.k rfl) (hM.p (r := some 257) 57 rfl rfl) ?_
          refine VW.iload (pc' := 223) d_Model_findsNodes_221 rfl rfl ?_
          refine VW.ild (pc' := 224) d_Model_findsNodes_223 rfl (hM.k rfl) (by omega) (by omega) (by first | exact h256 | exact h257 | rfl) ?_
          refine VW.cS (pc' := 227) d_Model_findsNodes_224 rfl ms_Model_counted lk_Model_422 rfl rfl rfl (Nat.le_refl _) (Nat.le_refl _) (sp_Model_counted (by have := p5 c214; omega)) rfl rfl ?_
          refine VW.goto (pc' := 248) d_Model_findsNodes_227 rfl ?_
          refine VW.iast (pc' := 249) d_Model_findsNodes_248 rfl (hM.k rfl) (by omega) (by omega) ?_
          refine VW.aload_n (pc' := 250) d_Model_findsNodes_249 rfl rfl ?_
          refine VW.gP (ci := 11) (T := T11) (N := 94) (k := 83) (k' := 83) (pc' := 253) d_Model_findsNodes_250 rfl lk_Model_206 in11 rfl rfl rfl rfl (hM.k rfl) (hM.p (r := some 283) 83 rfl rfl) ?_
          refine VW.iload_n (pc' := 254) d_Model_findsNodes_253 rfl rfl ?_
          refine VW.iload_n (pc' := 255) d_Model_findsNodes_254 rfl rfl ?_
          refine VW.iast (pc' := 256) d_Model_findsNodes_255 rfl (hM.k rfl) (by omega) (by omega) ?_
          refine VW.iinc (pc' := 259) d_Model_findsNodes_256 rfl rfl rfl (by omega) ?_
          refine VW.iinc (pc' := 262) d_Model_findsNodes_259 rfl rfl rfl (by omega) ?_
          refine VW.goto (pc' := 4) d_Model_findsNodes_262 rfl ?_
          refine VW.pick [0, 1, 2, 3] ?_
          first | exact nx _ (e5 c214) | exact nx _ (e6 c214 c239) | exact nx _ (hw c214 c239)
      have hx : 0 ≤ (12 * (q + 1) + (k : Int)) ∧ (12 * (q + 1) + (k : Int)) < 252 := by omega
      have t283 : ∀ (a b z : Int), up2 (up2 T 279 k a) 280 k b 283 z = T 283 z := fun a b z => (up2_o _ _ _ _ (by decide)).trans (up2_o _ _ _ _ (by decide))
      have t281 : ∀ (a b z : Int), up2 (up2 T 279 k a) 280 k b 281 z = T 281 z := fun a b z => (up2_o _ _ _ _ (by decide)).trans (up2_o _ _ _ _ (by decide))
      have t257 : ∀ (a b : Int), up2 (up2 T 279 k a) 280 k b 257 (12 * (q + 1) + (k : Int)) = I 257 (12 * (q + 1) + (k : Int)) := fun a b => (up2_o _ _ _ _ (by decide)).trans ((up2_o _ _ _ _ (by decide)).trans (fr 257 _ (by decide) (by decide) (by decide) (by decide)))
      have t201 : ∀ (a b z : Int), up2 (up2 T 279 k a) 280 k b 201 z = I 201 z := fun a b z => (up2_o _ _ _ _ (by decide)).trans ((up2_o _ _ _ _ (by decide)).trans (fr 201 _ (by decide) (by decide) (by decide) (by decide)))
      have hN := hT.2.1
      clear hE ih
      by_cases h0 : I 256 (12 * (q + 1) + (k : Int)) = 0
      · have F := fin (up2 (up2 T 279 k (-1)) 280 k (-1)) (I 201 (I 257 (12 * (q + 1) + (k : Int)))) ((nsW I (12 * (q + 1)) k).length : Int) (by unfold nRest; rw [if_neg (by omega), if_pos h0]) (by omega) (by unfold nLft; rw [if_neg (by omega), if_pos h0, up2_o _ _ _ _ (by decide), up2_eq]) (by unfold nRgt; rw [if_neg (by omega), up2_eq]) (fun o z o1 o2 => (up2_o _ _ _ _ o2).trans (up2_o _ _ _ _ o1)) (fun o z _ hz1 => (up2_k _ _ _ _ hz1).trans (up2_k _ _ _ _ hz1)) (fun _ _ => by unfold nWid; rw [if_neg (by omega), if_neg (by omega), if_pos h0])
        have pA := p0 h0
        have l79 : up2 (up2 T 279 k (-1)) 280 k (-1) 279 k = -1 := (up2_o _ _ _ _ (by decide)).trans (up2_eq _ _ _ _)
        clear fin hT fr hN p0 p1 p2 p5 pw lt
        refine VW.iload_n (pc' := 5) d_Model_findsNodes_4 rfl rfl ?_
        refine VW.aload_n (pc' := 6) d_Model_findsNodes_5 rfl rfl ?_
        refine VW.gP (ci := 11) (T := T11) (N := 94) (k := 62) (k' := 62) (pc' := 9) d_Model_findsNodes_6 rfl lk_Model_159 in11 rfl rfl rfl rfl (hM.k rfl) (hM.p (r := some 262) 62 rfl rfl) ?_
        refine VW.iload_n (pc' := 10) d_Model_findsNodes_9 rfl rfl ?_
        refine VW.ild (pc' := 11) d_Model_findsNodes_10 rfl (hM.k rfl) (by omega) (by omega) (by first | exact g262 | exact g256 _ _ _ _ | exact l79 | exact r80 | exact t257 _ _ | exact t201 _ _ _ | exact s1 | exact s2 | exact w1 | exact w2 | exact h3 | rfl) ?_
        refine VW.icmp_ge (tgt := 265) (pc' := 14) d_Model_findsNodes_11 rfl rfl (fun c11 => ?_) (fun c11 => ?_)
        · exfalso; omega
        · refine VW.iload_n (pc' := 15) d_Model_findsNodes_14 rfl rfl ?_
          refine VW.cS (pc' := 18) d_Model_findsNodes_15 rfl ms_Model_base lk_Model_431 rfl rfl rfl (Nat.le_refl _) (Nat.le_refl _) (sp_Model_base (by omega)) rfl rfl ?_
          refine VW.iload_n (pc' := 19) d_Model_findsNodes_18 rfl rfl ?_
          refine VW.iadd (pc' := 20) d_Model_findsNodes_19 rfl (by omega) ?_
          refine VW.istore (pc' := 22) d_Model_findsNodes_20 rfl rfl ?_
          refine VW.aload_n (pc' := 23) d_Model_findsNodes_22 rfl rfl ?_
          refine VW.gP (ci := 11) (T := T11) (N := 94) (k := 79) (k' := 79) (pc' := 26) d_Model_findsNodes_23 rfl lk_Model_194 in11 rfl rfl rfl rfl (hM.k rfl) (hM.p (r := some 279) 79 rfl rfl) ?_
          refine VW.iload_n (pc' := 27) d_Model_findsNodes_26 rfl rfl ?_
          refine VW.iconst (pc' := 28) d_Model_findsNodes_27 rfl (by decide) ?_
          refine VW.iast (pc' := 29) d_Model_findsNodes_28 rfl (hM.k rfl) (by omega) (by omega) ?_
          refine VW.aload_n (pc' := 30) d_Model_findsNodes_29 rfl rfl ?_
          refine VW.gP (ci := 11) (T := T11) (N := 94) (k := 80) (k' := 80) (pc' := 33) d_Model_findsNodes_30 rfl lk_Model_197 in11 rfl rfl rfl rfl (hM.k rfl) (hM.p (r := some 280) 80 rfl rfl) ?_
          refine VW.iload_n (pc' := 34) d_Model_findsNodes_33 rfl rfl ?_
          refine VW.iconst (pc' := 35) d_Model_findsNodes_34 rfl (by decide) ?_
          refine VW.iast (pc' := 36) d_Model_findsNodes_35 rfl (hM.k rfl) (by omega) (by omega) ?_
          refine VW.aload_n (pc' := 37) d_Model_findsNodes_36 rfl rfl ?_
          refine VW.gP (ci := 11) (T := T11) (N := 94) (k := 56) (k' := 56) (pc' := 40) d_Model_findsNodes_37 rfl lk_Model_144 in11 rfl rfl rfl rfl (hM.k rfl) (hM.p (r := some 256) 56 rfl rfl) ?_
          refine VW.iload (pc' := 42) d_Model_findsNodes_40 rfl rfl ?_
          refine VW.ild (pc' := 43) d_Model_findsNodes_42 rfl (hM.k rfl) (by omega) (by omega) (by first | exact g262 | exact g256 _ _ _ _ | exact l79 | exact r80 | exact t257 _ _ | exact t201 _ _ _ | exact s1 | exact s2 | exact w1 | exact w2 | exact h3 | rfl) ?_
          refine VW.iconst (pc' := 44) d_Model_findsNodes_43 rfl (by decide) ?_
          refine VW.icmp_eq (tgt := 59) (pc' := 47) d_Model_findsNodes_44 rfl rfl (fun c44 => ?_) (fun c44 => ?_)
          · exfalso; omega
          · refine VW.aload_n (pc' := 48) d_Model_findsNodes_47 rfl rfl ?_
            refine VW.gP (ci := 11) (T := T11) (N := 94) (k := 56) (k' := 56) (pc' := 51) d_Model_findsNodes_48 rfl lk_Model_144 in11 rfl rfl rfl rfl (hM.k rfl) (hM.p (r := some 256) 56 rfl rfl) ?_
            refine VW.iload (pc' := 53) d_Model_findsNodes_51 rfl rfl ?_
            refine VW.ild (pc' := 54) d_Model_findsNodes_53 rfl (hM.k rfl) (by omega) (by omega) (by first | exact g262 | exact g256 _ _ _ _ | exact l79 | exact r80 | exact t257 _ _ | exact t201 _ _ _ | exact s1 | exact s2 | exact w1 | exact w2 | exact h3 | rfl) ?_
            refine VW.bipush (pc' := 56) d_Model_findsNodes_54 rfl (by decide) ?_
            refine VW.icmp_ne (tgt := 93) (pc' := 59) d_Model_findsNodes_56 rfl rfl (fun c56 => ?_) (fun c56 => ?_)
            · refine VW.aload_n (pc' := 94) d_Model_findsNodes_93 rfl rfl ?_
              refine VW.gP (ci := 11) (T := T11) (N := 94) (k := 56) (k' := 56) (pc' := 97) d_Model_findsNodes_94 rfl lk_Model_144 in11 rfl rfl rfl rfl (hM.k rfl) (hM.p (r := some 256) 56 rfl rfl) ?_
              refine VW.iload (pc' := 99) d_Model_findsNodes_97 rfl rfl ?_
              refine VW.ild (pc' := 100) d_Model_findsNodes_99 rfl (hM.k rfl) (by omega) (by omega) (by first | exact g262 | exact g256 _ _ _ _ | exact l79 | exact r80 | exact t257 _ _ | exact t201 _ _ _ | exact s1 | exact s2 | exact w1 | exact w2 | exact h3 | rfl) ?_
              refine VW.if_eq (tgt := 120) (pc' := 103) d_Model_findsNodes_100 rfl rfl (fun c100 => ?_) (fun c100 => ?_)
              · try have e100 := bIe c100
                refine VW.aload_n (pc' := 121) d_Model_findsNodes_120 rfl rfl ?_
                refine VW.gP (ci := 11) (T := T11) (N := 94) (k := 79) (k' := 79) (pc' := 124) d_Model_findsNodes_121 rfl lk_Model_194 in11 rfl rfl rfl rfl (hM.k rfl) (hM.p (r := some 279) 79 rfl rfl) ?_
                refine VW.iload_n (pc' := 125) d_Model_findsNodes_124 rfl rfl ?_
                refine VW.ild (pc' := 126) d_Model_findsNodes_125 rfl (hM.k rfl) (by omega) (by omega) (by first | exact g262 | exact g256 _ _ _ _ | exact l79 | exact r80 | exact t257 _ _ | exact t201 _ _ _ | exact s1 | exact s2 | exact w1 | exact w2 | exact h3 | rfl) ?_
                refine VW.iconst (pc' := 127) d_Model_findsNodes_126 rfl (by decide) ?_
                refine VW.icmp_ne (tgt := 145) (pc' := 130) d_Model_findsNodes_127 rfl rfl (fun c127 => ?_) (fun c127 => ?_)
                · exfalso; omega
                · refine VW.aload_n (pc' := 131) d_Model_findsNodes_130 rfl rfl ?_
                  refine VW.gP (ci := 11) (T := T11) (N := 94) (k := 1) (k' := 1) (pc' := 134) d_Model_findsNodes_131 rfl lk_Model_7 in11 rfl rfl rfl rfl (hM.k rfl) (hM.p (r := some 201) 1 rfl rfl) ?_
                  refine VW.aload_n (pc' := 135) d_Model_findsNodes_134 rfl rfl ?_
                  refine VW.gP (ci := 11) (T := T11) (N := 94) (k := 57) (k' := 57) (pc' := 138) d_Model_findsNodes_135 rfl lk_Model_147 in11 rfl rfl rfl rfl (hM.k rfl) (hM.p (r := some 257) 57 rfl rfl) ?_
                  refine VW.iload (pc' := 140) d_Model_findsNodes_138 rfl rfl ?_
                  refine VW.ild (pc' := 141) d_Model_findsNodes_140 rfl (hM.k rfl) (by omega) (by omega) (by first | exact g262 | exact g256 _ _ _ _ | exact l79 | exact r80 | exact t257 _ _ | exact t201 _ _ _ | exact s1 | exact s2 | exact w1 | exact w2 | exact h3 | rfl) ?_
                  refine VW.ild (pc' := 142) d_Model_findsNodes_141 rfl (hM.k rfl) (by omega) (by omega) (by first | exact g262 | exact g256 _ _ _ _ | exact l79 | exact r80 | exact t257 _ _ | exact t201 _ _ _ | exact s1 | exact s2 | exact w1 | exact w2 | exact h3 | rfl) ?_
                  refine VW.goto (pc' := 156) d_Model_findsNodes_142 rfl ?_
                  refine VW.istore (pc' := 158) d_Model_findsNodes_156 rfl rfl ?_
                  refine VW.aload_n (pc' := 159) d_Model_findsNodes_158 rfl rfl ?_
                  refine VW.gP (ci := 11) (T := T11) (N := 94) (k := 56) (k' := 56) (pc' := 162) d_Model_findsNodes_159 rfl lk_Model_144 in11 rfl rfl rfl rfl (hM.k rfl) (hM.p (r := some 256) 56 rfl rfl) ?_
                  refine VW.iload (pc' := 164) d_Model_findsNodes_162 rfl rfl ?_
                  refine VW.ild (pc' := 165) d_Model_findsNodes_164 rfl (hM.k rfl) (by omega) (by omega) (by first | exact g262 | exact g256 _ _ _ _ | exact l79 | exact r80 | exact t257 _ _ | exact t201 _ _ _ | exact s1 | exact s2 | exact w1 | exact w2 | exact h3 | rfl) ?_
                  refine VW.iconst (pc' := 166) d_Model_findsNodes_165 rfl (by decide) ?_
                  refine VW.icmp_ne (tgt := 197) (pc' := 169) d_Model_findsNodes_166 rfl rfl (fun c166 => ?_) (fun c166 => ?_)
                  · refine VW.iload (pc' := 199) d_Model_findsNodes_197 rfl rfl ?_
                    refine VW.istore (pc' := 201) d_Model_findsNodes_199 rfl rfl ?_
                    refine VW.pick [0, 1, 2, 3, 4, 5] ?_
                    exact F
                  · refine VW.aload_n (pc' := 170) d_Model_findsNodes_169 rfl rfl ?_
                    refine VW.gP (ci := 11) (T := T11) (N := 94) (k := 57) (k' := 57) (pc' := 173) d_Model_findsNodes_170 rfl lk_Model_147 in11 rfl rfl rfl rfl (hM.k rfl) (hM.p (r := some 257) 57 rfl rfl) ?_
                    refine VW.iload (pc' := 175) d_Model_findsNodes_173 rfl rfl ?_
                    refine VW.ild (pc' := 176) d_Model_findsNodes_175 rfl (hM.k rfl) (by omega) (by omega) (by first | exact g262 | exact g256 _ _ _ _ | exact l79 | exact r80 | exact t257 _ _ | exact t201 _ _ _ | exact s1 | exact s2 | exact w1 | exact w2 | exact h3 | rfl) ?_
                    refine VW.iconst (pc' := 177) d_Model_findsNodes_176 rfl (by decide) ?_
                    refine VW.icmp_gt (tgt := 197) (pc' := 180) d_Model_findsNodes_177 rfl rfl (fun c177 => ?_) (fun c177 => ?_)
                    · refine VW.iload (pc' := 199) d_Model_findsNodes_197 rfl rfl ?_
                      refine VW.istore (pc' := 201) d_Model_findsNodes_199 rfl rfl ?_
                      refine VW.pick [0, 1, 2, 3, 4, 5] ?_
                      exact F
                    · exfalso; omega
              · try have e100 := bIn c100
                exfalso; omega
            · exfalso; omega
      · by_cases h2 : I 256 (12 * (q + 1) + (k : Int)) = 4 ∨ I 256 (12 * (q + 1) + (k : Int)) = 7
        · have hl := p2 h2
          obtain ⟨e, d, r, hst⟩ : ∃ e d r, (nsW I (12 * (q + 1)) k) = e :: d :: r := by
            revert hl
            rcases (nsW I (12 * (q + 1)) k) with _ | ⟨e, _ | ⟨d, r⟩⟩
            · intro h; exact absurd h (by decide)
            · intro h; exact absurd h (by simp)
            · intro _; exact ⟨e, d, r, rfl⟩
          rw [hst] at hN lt pw p12
          have lt1 := lt e List.mem_cons_self
          have lt2 := lt d (List.mem_cons_of_mem _ List.mem_cons_self)
          have pw1 := pw e List.mem_cons_self
          have pw2 := pw d (List.mem_cons_of_mem _ List.mem_cons_self)
          obtain ⟨⟨n1, n2⟩, ⟨n3, n4⟩, -⟩ := hN
          have len : (((e :: d :: r : NST).length : Nat) : Int) = (r.length : Int) + 2 := by show ((r.length + 1 + 1 : Nat) : Int) = _; omega
          have len1 : (((d :: r : NST).length : Nat) : Int) = (r.length : Int) + 1 := by show ((r.length + 1 : Nat) : Int) = _; omega
          rw [hst] at fin ⊢
          have p13 : (r.length : Int) + 2 ≤ 12 := by omega
          rw [len]
          rw [len1] at n1
          have U1 := fin (up2 (up2 (up2 (up2 T 279 k (-1)) 280 k (-1)) 280 k e.1) 279 k d.1)
          have F := fun (w : Int) (hw : I 256 (12 * (q + 1) + (k : Int)) ≠ 5 → I 256 (12 * (q + 1) + (k : Int)) ≠ 6 → w = nWid I (12 * (q + 1) + (k : Int)) (e :: d :: r)) => U1 w ((r.length : Int) + 2 + -2) (by unfold nRest; rw [if_pos h2]; show _ = (r.length : Int); omega) (by omega) (by unfold nLft; rw [if_pos h2, up2_eq]; rfl) (by unfold nRgt; rw [if_pos h2, up2_o _ _ _ _ (by decide), up2_eq]; rfl) (fun o z o1 o2 => (up2_o _ _ _ _ o1).trans ((up2_o _ _ _ _ o2).trans ((up2_o _ _ _ _ o2).trans (up2_o _ _ _ _ o1)))) (fun o z _ hz1 => (up2_k _ _ _ _ hz1).trans ((up2_k _ _ _ _ hz1).trans ((up2_k _ _ _ _ hz1).trans (up2_k _ _ _ _ hz1)))) hw
          have F7 := fun (z : I 256 (12 * (q + 1) + (k : Int)) ≠ 4) => F d.2 (fun z5 z6 => by unfold nWid; rw [if_neg z5, if_neg z6, if_neg h0, if_neg z, if_pos (by omega)]; rfl)
          have F4a := fun (z : I 256 (12 * (q + 1) + (k : Int)) = 4) (z2 : I 257 (12 * (q + 1) + (k : Int)) ≤ 2) => F (d.2 + e.2) (fun z5 z6 => by unfold nWid; rw [if_neg z5, if_neg z6, if_neg h0, if_pos z, if_pos z2]; rfl)
          have F4b := fun (z : I 256 (12 * (q + 1) + (k : Int)) = 4) (z2 : ¬ I 257 (12 * (q + 1) + (k : Int)) ≤ 2) => F d.2 (fun z5 z6 => by unfold nWid; rw [if_neg z5, if_neg z6, if_neg h0, if_pos z, if_neg z2]; rfl)
          have s1 : up2 (up2 T 279 k (-1)) 280 k (-1) 283 ((r.length : Int) + 2 - 1) = e.1 := by rw [t283, show (r.length : Int) + 2 - 1 = (r.length : Int) + 1 by omega]; exact n1
          have s2 : up2 (up2 (up2 T 279 k (-1)) 280 k (-1)) 280 k e.1 283 ((r.length : Int) + 2 - 2) = d.1 := by rw [up2_o _ _ _ _ (by decide), t283, show (r.length : Int) + 2 - 2 = r.length by omega]; exact n3
          have l79 : up2 (up2 (up2 (up2 T 279 k (-1)) 280 k (-1)) 280 k e.1) 279 k d.1 279 k = d.1 := up2_eq _ _ _ _
          have r80 : up2 (up2 (up2 (up2 T 279 k (-1)) 280 k (-1)) 280 k e.1) 279 k d.1 280 k = e.1 := (up2_o _ _ _ _ (by decide)).trans (up2_eq _ _ _ _)
          have w1 : up2 (up2 (up2 (up2 T 279 k (-1)) 280 k (-1)) 280 k e.1) 279 k d.1 281 d.1 = d.2 := (up2_o _ _ _ _ (by decide)).trans ((up2_o _ _ _ _ (by decide)).trans ((t281 _ _ _).trans n4))
          have w2 : up2 (up2 (up2 (up2 T 279 k (-1)) 280 k (-1)) 280 k e.1) 279 k d.1 281 e.1 = e.2 := (up2_o _ _ _ _ (by decide)).trans ((up2_o _ _ _ _ (by decide)).trans ((t281 _ _ _).trans n2))
          have h3 : up2 (up2 (up2 (up2 T 279 k (-1)) 280 k (-1)) 280 k e.1) 279 k d.1 256 (12 * (q + 1) + (k : Int)) = I 256 (12 * (q + 1) + (k : Int)) := (up2_o _ _ _ _ (by decide)).trans ((up2_o _ _ _ _ (by decide)).trans (g256 _ _ _ _))
          have h257b : up2 (up2 (up2 (up2 T 279 k (-1)) 280 k (-1)) 280 k e.1) 279 k d.1 257 (12 * (q + 1) + (k : Int)) = I 257 (12 * (q + 1) + (k : Int)) := (up2_o _ _ _ _ (by decide)).trans ((up2_o _ _ _ _ (by decide)).trans (t257 _ _))
          clear fin U1 F hT fr p0 p1 p2 p5 pw lt hst
          refine VW.iload_n (pc' := 5) d_Model_findsNodes_4 rfl rfl ?_
          refine VW.aload_n (pc' := 6) d_Model_findsNodes_5 rfl rfl ?_
          refine VW.gP (ci := 11) (T := T11) (N := 94) (k := 62) (k' := 62) (pc' := 9) d_Model_findsNodes_6 rfl lk_Model_159 in11 rfl rfl rfl rfl (hM.k rfl) (hM.p (r := some 262) 62 rfl rfl) ?_
          refine VW.iload_n (pc' := 10) d_Model_findsNodes_9 rfl rfl ?_
          refine VW.ild (pc' := 11) d_Model_findsNodes_10 rfl (hM.k rfl) (by omega) (by omega) (by first | exact g262 | exact g256 _ _ _ _ | exact l79 | exact r80 | exact t257 _ _ | exact t201 _ _ _ | exact s1 | exact s2 | exact w1 | exact w2 | exact h3 | exact h257b | rfl) ?_
          refine VW.icmp_ge (tgt := 265) (pc' := 14) d_Model_findsNodes_11 rfl rfl (fun c11 => ?_) (fun c11 => ?_)
          · exfalso; omega
          · refine VW.iload_n (pc' := 15) d_Model_findsNodes_14 rfl rfl ?_
            refine VW.cS (pc' := 18) d_Model_findsNodes_15 rfl ms_Model_base lk_Model_431 rfl rfl rfl (Nat.le_refl _) (Nat.le_refl _) (sp_Model_base (by omega)) rfl rfl ?_
            refine VW.iload_n (pc' := 19) d_Model_findsNodes_18 rfl rfl ?_
            refine VW.iadd (pc' := 20) d_Model_findsNodes_19 rfl (by omega) ?_
            refine VW.istore (pc' := 22) d_Model_findsNodes_20 rfl rfl ?_
            refine VW.aload_n (pc' := 23) d_Model_findsNodes_22 rfl rfl ?_
            refine VW.gP (ci := 11) (T := T11) (N := 94) (k := 79) (k' := 79) (pc' := 26) d_Model_findsNodes_23 rfl lk_Model_194 in11 rfl rfl rfl rfl (hM.k rfl) (hM.p (r := some 279) 79 rfl rfl) ?_
            refine VW.iload_n (pc' := 27) d_Model_findsNodes_26 rfl rfl ?_
            refine VW.iconst (pc' := 28) d_Model_findsNodes_27 rfl (by decide) ?_
            refine VW.iast (pc' := 29) d_Model_findsNodes_28 rfl (hM.k rfl) (by omega) (by omega) ?_
            refine VW.aload_n (pc' := 30) d_Model_findsNodes_29 rfl rfl ?_
            refine VW.gP (ci := 11) (T := T11) (N := 94) (k := 80) (k' := 80) (pc' := 33) d_Model_findsNodes_30 rfl lk_Model_197 in11 rfl rfl rfl rfl (hM.k rfl) (hM.p (r := some 280) 80 rfl rfl) ?_
            refine VW.iload_n (pc' := 34) d_Model_findsNodes_33 rfl rfl ?_
            refine VW.iconst (pc' := 35) d_Model_findsNodes_34 rfl (by decide) ?_
            refine VW.iast (pc' := 36) d_Model_findsNodes_35 rfl (hM.k rfl) (by omega) (by omega) ?_
            refine VW.aload_n (pc' := 37) d_Model_findsNodes_36 rfl rfl ?_
            refine VW.gP (ci := 11) (T := T11) (N := 94) (k := 56) (k' := 56) (pc' := 40) d_Model_findsNodes_37 rfl lk_Model_144 in11 rfl rfl rfl rfl (hM.k rfl) (hM.p (r := some 256) 56 rfl rfl) ?_
            refine VW.iload (pc' := 42) d_Model_findsNodes_40 rfl rfl ?_
            refine VW.ild (pc' := 43) d_Model_findsNodes_42 rfl (hM.k rfl) (by omega) (by omega) (by first | exact g262 | exact g256 _ _ _ _ | exact l79 | exact r80 | exact t257 _ _ | exact t201 _ _ _ | exact s1 | exact s2 | exact w1 | exact w2 | exact h3 | exact h257b | rfl) ?_
            refine VW.iconst (pc' := 44) d_Model_findsNodes_43 rfl (by decide) ?_
            refine VW.icmp_eq (tgt := 59) (pc' := 47) d_Model_findsNodes_44 rfl rfl (fun c44 => ?_) (fun c44 => ?_)
            · refine VW.aload_n (pc' := 60) d_Model_findsNodes_59 rfl rfl ?_
              refine VW.gP (ci := 11) (T := T11) (N := 94) (k := 80) (k' := 80) (pc' := 63) d_Model_findsNodes_60 rfl lk_Model_197 in11 rfl rfl rfl rfl (hM.k rfl) (hM.p (r := some 280) 80 rfl rfl) ?_
              refine VW.iload_n (pc' := 64) d_Model_findsNodes_63 rfl rfl ?_
              refine VW.aload_n (pc' := 65) d_Model_findsNodes_64 rfl rfl ?_
              refine VW.gP (ci := 11) (T := T11) (N := 94) (k := 83) (k' := 83) (pc' := 68) d_Model_findsNodes_65 rfl lk_Model_206 in11 rfl rfl rfl rfl (hM.k rfl) (hM.p (r := some 283) 83 rfl rfl) ?_
              refine VW.iload_n (pc' := 69) d_Model_findsNodes_68 rfl rfl ?_
              refine VW.iconst (pc' := 70) d_Model_findsNodes_69 rfl (by decide) ?_
              refine VW.isub (pc' := 71) d_Model_findsNodes_70 rfl (by omega) ?_
              refine VW.ild (pc' := 72) d_Model_findsNodes_71 rfl (hM.k rfl) (by omega) (by omega) (by first | exact g262 | exact g256 _ _ _ _ | exact l79 | exact r80 | exact t257 _ _ | exact t201 _ _ _ | exact s1 | exact s2 | exact w1 | exact w2 | exact h3 | exact h257b | rfl) ?_
              refine VW.iast (pc' := 73) d_Model_findsNodes_72 rfl (hM.k rfl) (by omega) (by omega) ?_
              refine VW.aload_n (pc' := 74) d_Model_findsNodes_73 rfl rfl ?_
              refine VW.gP (ci := 11) (T := T11) (N := 94) (k := 79) (k' := 79) (pc' := 77) d_Model_findsNodes_74 rfl lk_Model_194 in11 rfl rfl rfl rfl (hM.k rfl) (hM.p (r := some 279) 79 rfl rfl) ?_
              refine VW.iload_n (pc' := 78) d_Model_findsNodes_77 rfl rfl ?_
              refine VW.aload_n (pc' := 79) d_Model_findsNodes_78 rfl rfl ?_
              refine VW.gP (ci := 11) (T := T11) (N := 94) (k := 83) (k' := 83) (pc' := 82) d_Model_findsNodes_79 rfl lk_Model_206 in11 rfl rfl rfl rfl (hM.k rfl) (hM.p (r := some 283) 83 rfl rfl) ?_
              refine VW.iload_n (pc' := 83) d_Model_findsNodes_82 rfl rfl ?_
              refine VW.iconst (pc' := 84) d_Model_findsNodes_83 rfl (by decide) ?_
              refine VW.isub (pc' := 85) d_Model_findsNodes_84 rfl (by omega) ?_
              refine VW.ild (pc' := 86) d_Model_findsNodes_85 rfl (hM.k rfl) (by omega) (by omega) (by first | exact g262 | exact g256 _ _ _ _ | exact l79 | exact r80 | exact t257 _ _ | exact t201 _ _ _ | exact s1 | exact s2 | exact w1 | exact w2 | exact h3 | exact h257b | rfl) ?_
              refine VW.iast (pc' := 87) d_Model_findsNodes_86 rfl (hM.k rfl) (by omega) (by omega) ?_
              refine VW.iinc (pc' := 90) d_Model_findsNodes_87 rfl rfl rfl (by omega) ?_
              refine VW.goto (pc' := 120) d_Model_findsNodes_90 rfl ?_
              refine VW.aload_n (pc' := 121) d_Model_findsNodes_120 rfl rfl ?_
              refine VW.gP (ci := 11) (T := T11) (N := 94) (k := 79) (k' := 79) (pc' := 124) d_Model_findsNodes_121 rfl lk_Model_194 in11 rfl rfl rfl rfl (hM.k rfl) (hM.p (r := some 279) 79 rfl rfl) ?_
              refine VW.iload_n (pc' := 125) d_Model_findsNodes_124 rfl rfl ?_
              refine VW.ild (pc' := 126) d_Model_findsNodes_125 rfl (hM.k rfl) (by omega) (by omega) (by first | exact g262 | exact g256 _ _ _ _ | exact l79 | exact r80 | exact t257 _ _ | exact t201 _ _ _ | exact s1 | exact s2 | exact w1 | exact w2 | exact h3 | exact h257b | rfl) ?_
              refine VW.iconst (pc' := 127) d_Model_findsNodes_126 rfl (by decide) ?_
              refine VW.icmp_ne (tgt := 145) (pc' := 130) d_Model_findsNodes_127 rfl rfl (fun c127 => ?_) (fun c127 => ?_)
              · refine VW.aload_n (pc' := 146) d_Model_findsNodes_145 rfl rfl ?_
                refine VW.gP (ci := 11) (T := T11) (N := 94) (k := 81) (k' := 81) (pc' := 149) d_Model_findsNodes_146 rfl lk_Model_200 in11 rfl rfl rfl rfl (hM.k rfl) (hM.p (r := some 281) 81 rfl rfl) ?_
                refine VW.aload_n (pc' := 150) d_Model_findsNodes_149 rfl rfl ?_
                refine VW.gP (ci := 11) (T := T11) (N := 94) (k := 79) (k' := 79) (pc' := 153) d_Model_findsNodes_150 rfl lk_Model_194 in11 rfl rfl rfl rfl (hM.k rfl) (hM.p (r := some 279) 79 rfl rfl) ?_
                refine VW.iload_n (pc' := 154) d_Model_findsNodes_153 rfl rfl ?_
                refine VW.ild (pc' := 155) d_Model_findsNodes_154 rfl (hM.k rfl) (by omega) (by omega) (by first | exact g262 | exact g256 _ _ _ _ | exact l79 | exact r80 | exact t257 _ _ | exact t201 _ _ _ | exact s1 | exact s2 | exact w1 | exact w2 | exact h3 | exact h257b | rfl) ?_
                refine VW.ild (pc' := 156) d_Model_findsNodes_155 rfl (hM.k rfl) (by omega) (by omega) (by first | exact g262 | exact g256 _ _ _ _ | exact l79 | exact r80 | exact t257 _ _ | exact t201 _ _ _ | exact s1 | exact s2 | exact w1 | exact w2 | exact h3 | exact h257b | rfl) ?_
                refine VW.istore (pc' := 158) d_Model_findsNodes_156 rfl rfl ?_
                refine VW.aload_n (pc' := 159) d_Model_findsNodes_158 rfl rfl ?_
                refine VW.gP (ci := 11) (T := T11) (N := 94) (k := 56) (k' := 56) (pc' := 162) d_Model_findsNodes_159 rfl lk_Model_144 in11 rfl rfl rfl rfl (hM.k rfl) (hM.p (r := some 256) 56 rfl rfl) ?_
                refine VW.iload (pc' := 164) d_Model_findsNodes_162 rfl rfl ?_
                refine VW.ild (pc' := 165) d_Model_findsNodes_164 rfl (hM.k rfl) (by omega) (by omega) (by first | exact g262 | exact g256 _ _ _ _ | exact l79 | exact r80 | exact t257 _ _ | exact t201 _ _ _ | exact s1 | exact s2 | exact w1 | exact w2 | exact h3 | exact h257b | rfl) ?_
                refine VW.iconst (pc' := 166) d_Model_findsNodes_165 rfl (by decide) ?_
                refine VW.icmp_ne (tgt := 197) (pc' := 169) d_Model_findsNodes_166 rfl rfl (fun c166 => ?_) (fun c166 => ?_)
                · refine VW.iload (pc' := 199) d_Model_findsNodes_197 rfl rfl ?_
                  refine VW.istore (pc' := 201) d_Model_findsNodes_199 rfl rfl ?_
                  refine VW.pick [0, 1, 2, 3, 4, 5] ?_
                  first | exact F4a c166 (by omega) | exact F4b c166 (by omega) | exact F7 c166
                · refine VW.aload_n (pc' := 170) d_Model_findsNodes_169 rfl rfl ?_
                  refine VW.gP (ci := 11) (T := T11) (N := 94) (k := 57) (k' := 57) (pc' := 173) d_Model_findsNodes_170 rfl lk_Model_147 in11 rfl rfl rfl rfl (hM.k rfl) (hM.p (r := some 257) 57 rfl rfl) ?_
                  refine VW.iload (pc' := 175) d_Model_findsNodes_173 rfl rfl ?_
                  refine VW.ild (pc' := 176) d_Model_findsNodes_175 rfl (hM.k rfl) (by omega) (by omega) (by first | exact g262 | exact g256 _ _ _ _ | exact l79 | exact r80 | exact t257 _ _ | exact t201 _ _ _ | exact s1 | exact s2 | exact w1 | exact w2 | exact h3 | exact h257b | rfl) ?_
                  refine VW.iconst (pc' := 177) d_Model_findsNodes_176 rfl (by decide) ?_
                  refine VW.icmp_gt (tgt := 197) (pc' := 180) d_Model_findsNodes_177 rfl rfl (fun c177 => ?_) (fun c177 => ?_)
                  · refine VW.iload (pc' := 199) d_Model_findsNodes_197 rfl rfl ?_
                    refine VW.istore (pc' := 201) d_Model_findsNodes_199 rfl rfl ?_
                    refine VW.pick [0, 1, 2, 3, 4, 5] ?_
                    first | exact F4a c166 (by omega) | exact F4b c166 (by omega) | exact F7 c166
                  · refine VW.iload (pc' := 182) d_Model_findsNodes_180 rfl rfl ?_
                    refine VW.aload_n (pc' := 183) d_Model_findsNodes_182 rfl rfl ?_
                    refine VW.gP (ci := 11) (T := T11) (N := 94) (k := 81) (k' := 81) (pc' := 186) d_Model_findsNodes_183 rfl lk_Model_200 in11 rfl rfl rfl rfl (hM.k rfl) (hM.p (r := some 281) 81 rfl rfl) ?_
                    refine VW.aload_n (pc' := 187) d_Model_findsNodes_186 rfl rfl ?_
                    refine VW.gP (ci := 11) (T := T11) (N := 94) (k := 80) (k' := 80) (pc' := 190) d_Model_findsNodes_187 rfl lk_Model_197 in11 rfl rfl rfl rfl (hM.k rfl) (hM.p (r := some 280) 80 rfl rfl) ?_
                    refine VW.iload_n (pc' := 191) d_Model_findsNodes_190 rfl rfl ?_
                    refine VW.ild (pc' := 192) d_Model_findsNodes_191 rfl (hM.k rfl) (by omega) (by omega) (by first | exact g262 | exact g256 _ _ _ _ | exact l79 | exact r80 | exact t257 _ _ | exact t201 _ _ _ | exact s1 | exact s2 | exact w1 | exact w2 | exact h3 | exact h257b | rfl) ?_
                    refine VW.ild (pc' := 193) d_Model_findsNodes_192 rfl (hM.k rfl) (by omega) (by omega) (by first | exact g262 | exact g256 _ _ _ _ | exact l79 | exact r80 | exact t257 _ _ | exact t201 _ _ _ | exact s1 | exact s2 | exact w1 | exact w2 | exact h3 | exact h257b | rfl) ?_
                    refine VW.iadd (pc' := 194) d_Model_findsNodes_193 rfl (by omega) ?_
                    refine VW.goto (pc' := 199) d_Model_findsNodes_194 rfl ?_
                    refine VW.istore (pc' := 201) d_Model_findsNodes_199 rfl rfl ?_
                    refine VW.pick [0, 1, 2, 3, 4, 5] ?_
                    first | exact F4a c166 (by omega) | exact F4b c166 (by omega) | exact F7 c166
              · exfalso; omega
            · refine VW.aload_n (pc' := 48) d_Model_findsNodes_47 rfl rfl ?_
              refine VW.gP (ci := 11) (T := T11) (N := 94) (k := 56) (k' := 56) (pc' := 51) d_Model_findsNodes_48 rfl lk_Model_144 in11 rfl rfl rfl rfl (hM.k rfl) (hM.p (r := some 256) 56 rfl rfl) ?_
              refine VW.iload (pc' := 53) d_Model_findsNodes_51 rfl rfl ?_
              refine VW.ild (pc' := 54) d_Model_findsNodes_53 rfl (hM.k rfl) (by omega) (by omega) (by first | exact g262 | exact g256 _ _ _ _ | exact l79 | exact r80 | exact t257 _ _ | exact t201 _ _ _ | exact s1 | exact s2 | exact w1 | exact w2 | exact h3 | exact h257b | rfl) ?_
              refine VW.bipush (pc' := 56) d_Model_findsNodes_54 rfl (by decide) ?_
              refine VW.icmp_ne (tgt := 93) (pc' := 59) d_Model_findsNodes_56 rfl rfl (fun c56 => ?_) (fun c56 => ?_)
              · exfalso; omega
              · refine VW.aload_n (pc' := 60) d_Model_findsNodes_59 rfl rfl ?_
                refine VW.gP (ci := 11) (T := T11) (N := 94) (k := 80) (k' := 80) (pc' := 63) d_Model_findsNodes_60 rfl lk_Model_197 in11 rfl rfl rfl rfl (hM.k rfl) (hM.p (r := some 280) 80 rfl rfl) ?_
                refine VW.iload_n (pc' := 64) d_Model_findsNodes_63 rfl rfl ?_
                refine VW.aload_n (pc' := 65) d_Model_findsNodes_64 rfl rfl ?_
                refine VW.gP (ci := 11) (T := T11) (N := 94) (k := 83) (k' := 83) (pc' := 68) d_Model_findsNodes_65 rfl lk_Model_206 in11 rfl rfl rfl rfl (hM.k rfl) (hM.p (r := some 283) 83 rfl rfl) ?_
                refine VW.iload_n (pc' := 69) d_Model_findsNodes_68 rfl rfl ?_
                refine VW.iconst (pc' := 70) d_Model_findsNodes_69 rfl (by decide) ?_
                refine VW.isub (pc' := 71) d_Model_findsNodes_70 rfl (by omega) ?_
                refine VW.ild (pc' := 72) d_Model_findsNodes_71 rfl (hM.k rfl) (by omega) (by omega) (by first | exact g262 | exact g256 _ _ _ _ | exact l79 | exact r80 | exact t257 _ _ | exact t201 _ _ _ | exact s1 | exact s2 | exact w1 | exact w2 | exact h3 | exact h257b | rfl) ?_
                refine VW.iast (pc' := 73) d_Model_findsNodes_72 rfl (hM.k rfl) (by omega) (by omega) ?_
                refine VW.aload_n (pc' := 74) d_Model_findsNodes_73 rfl rfl ?_
                refine VW.gP (ci := 11) (T := T11) (N := 94) (k := 79) (k' := 79) (pc' := 77) d_Model_findsNodes_74 rfl lk_Model_194 in11 rfl rfl rfl rfl (hM.k rfl) (hM.p (r := some 279) 79 rfl rfl) ?_
                refine VW.iload_n (pc' := 78) d_Model_findsNodes_77 rfl rfl ?_
                refine VW.aload_n (pc' := 79) d_Model_findsNodes_78 rfl rfl ?_
                refine VW.gP (ci := 11) (T := T11) (N := 94) (k := 83) (k' := 83) (pc' := 82) d_Model_findsNodes_79 rfl lk_Model_206 in11 rfl rfl rfl rfl (hM.k rfl) (hM.p (r := some 283) 83 rfl rfl) ?_
                refine VW.iload_n (pc' := 83) d_Model_findsNodes_82 rfl rfl ?_
                refine VW.iconst (pc' := 84) d_Model_findsNodes_83 rfl (by decide) ?_
                refine VW.isub (pc' := 85) d_Model_findsNodes_84 rfl (by omega) ?_
                refine VW.ild (pc' := 86) d_Model_findsNodes_85 rfl (hM.k rfl) (by omega) (by omega) (by first | exact g262 | exact g256 _ _ _ _ | exact l79 | exact r80 | exact t257 _ _ | exact t201 _ _ _ | exact s1 | exact s2 | exact w1 | exact w2 | exact h3 | exact h257b | rfl) ?_
                refine VW.iast (pc' := 87) d_Model_findsNodes_86 rfl (hM.k rfl) (by omega) (by omega) ?_
                refine VW.iinc (pc' := 90) d_Model_findsNodes_87 rfl rfl rfl (by omega) ?_
                refine VW.goto (pc' := 120) d_Model_findsNodes_90 rfl ?_
                refine VW.aload_n (pc' := 121) d_Model_findsNodes_120 rfl rfl ?_
                refine VW.gP (ci := 11) (T := T11) (N := 94) (k := 79) (k' := 79) (pc' := 124) d_Model_findsNodes_121 rfl lk_Model_194 in11 rfl rfl rfl rfl (hM.k rfl) (hM.p (r := some 279) 79 rfl rfl) ?_
                refine VW.iload_n (pc' := 125) d_Model_findsNodes_124 rfl rfl ?_
                refine VW.ild (pc' := 126) d_Model_findsNodes_125 rfl (hM.k rfl) (by omega) (by omega) (by first | exact g262 | exact g256 _ _ _ _ | exact l79 | exact r80 | exact t257 _ _ | exact t201 _ _ _ | exact s1 | exact s2 | exact w1 | exact w2 | exact h3 | exact h257b | rfl) ?_
                refine VW.iconst (pc' := 127) d_Model_findsNodes_126 rfl (by decide) ?_
                refine VW.icmp_ne (tgt := 145) (pc' := 130) d_Model_findsNodes_127 rfl rfl (fun c127 => ?_) (fun c127 => ?_)
                · refine VW.aload_n (pc' := 146) d_Model_findsNodes_145 rfl rfl ?_
                  refine VW.gP (ci := 11) (T := T11) (N := 94) (k := 81) (k' := 81) (pc' := 149) d_Model_findsNodes_146 rfl lk_Model_200 in11 rfl rfl rfl rfl (hM.k rfl) (hM.p (r := some 281) 81 rfl rfl) ?_
                  refine VW.aload_n (pc' := 150) d_Model_findsNodes_149 rfl rfl ?_
                  refine VW.gP (ci := 11) (T := T11) (N := 94) (k := 79) (k' := 79) (pc' := 153) d_Model_findsNodes_150 rfl lk_Model_194 in11 rfl rfl rfl rfl (hM.k rfl) (hM.p (r := some 279) 79 rfl rfl) ?_
                  refine VW.iload_n (pc' := 154) d_Model_findsNodes_153 rfl rfl ?_
                  refine VW.ild (pc' := 155) d_Model_findsNodes_154 rfl (hM.k rfl) (by omega) (by omega) (by first | exact g262 | exact g256 _ _ _ _ | exact l79 | exact r80 | exact t257 _ _ | exact t201 _ _ _ | exact s1 | exact s2 | exact w1 | exact w2 | exact h3 | exact h257b | rfl) ?_
                  refine VW.ild (pc' := 156) d_Model_findsNodes_155 rfl (hM.k rfl) (by omega) (by omega) (by first | exact g262 | exact g256 _ _ _ _ | exact l79 | exact r80 | exact t257 _ _ | exact t201 _ _ _ | exact s1 | exact s2 | exact w1 | exact w2 | exact h3 | exact h257b | rfl) ?_
                  refine VW.istore (pc' := 158) d_Model_findsNodes_156 rfl rfl ?_
                  refine VW.aload_n (pc' := 159) d_Model_findsNodes_158 rfl rfl ?_
                  refine VW.gP (ci := 11) (T := T11) (N := 94) (k := 56) (k' := 56) (pc' := 162) d_Model_findsNodes_159 rfl lk_Model_144 in11 rfl rfl rfl rfl (hM.k rfl) (hM.p (r := some 256) 56 rfl rfl) ?_
                  refine VW.iload (pc' := 164) d_Model_findsNodes_162 rfl rfl ?_
                  refine VW.ild (pc' := 165) d_Model_findsNodes_164 rfl (hM.k rfl) (by omega) (by omega) (by first | exact g262 | exact g256 _ _ _ _ | exact l79 | exact r80 | exact t257 _ _ | exact t201 _ _ _ | exact s1 | exact s2 | exact w1 | exact w2 | exact h3 | exact h257b | rfl) ?_
                  refine VW.iconst (pc' := 166) d_Model_findsNodes_165 rfl (by decide) ?_
                  refine VW.icmp_ne (tgt := 197) (pc' := 169) d_Model_findsNodes_166 rfl rfl (fun c166 => ?_) (fun c166 => ?_)
                  · refine VW.iload (pc' := 199) d_Model_findsNodes_197 rfl rfl ?_
                    refine VW.istore (pc' := 201) d_Model_findsNodes_199 rfl rfl ?_
                    refine VW.pick [0, 1, 2, 3, 4, 5] ?_
                    first | exact F4a c166 (by omega) | exact F4b c166 (by omega) | exact F7 c166
                  · refine VW.aload_n (pc' := 170) d_Model_findsNodes_169 rfl rfl ?_
                    refine VW.gP (ci := 11) (T := T11) (N := 94) (k := 57) (k' := 57) (pc' := 173) d_Model_findsNodes_170 rfl lk_Model_147 in11 rfl rfl rfl rfl (hM.k rfl) (hM.p (r := some 257) 57 rfl rfl) ?_
                    refine VW.iload (pc' := 175) d_Model_findsNodes_173 rfl rfl ?_
                    refine VW.ild (pc' := 176) d_Model_findsNodes_175 rfl (hM.k rfl) (by omega) (by omega) (by first | exact g262 | exact g256 _ _ _ _ | exact l79 | exact r80 | exact t257 _ _ | exact t201 _ _ _ | exact s1 | exact s2 | exact w1 | exact w2 | exact h3 | exact h257b | rfl) ?_
                    refine VW.iconst (pc' := 177) d_Model_findsNodes_176 rfl (by decide) ?_
                    refine VW.icmp_gt (tgt := 197) (pc' := 180) d_Model_findsNodes_177 rfl rfl (fun c177 => ?_) (fun c177 => ?_)
                    · refine VW.iload (pc' := 199) d_Model_findsNodes_197 rfl rfl ?_
                      refine VW.istore (pc' := 201) d_Model_findsNodes_199 rfl rfl ?_
                      refine VW.pick [0, 1, 2, 3, 4, 5] ?_
                      first | exact F4a c166 (by omega) | exact F4b c166 (by omega) | exact F7 c166
                    · refine VW.iload (pc' := 182) d_Model_findsNodes_180 rfl rfl ?_
                      refine VW.aload_n (pc' := 183) d_Model_findsNodes_182 rfl rfl ?_
                      refine VW.gP (ci := 11) (T := T11) (N := 94) (k := 81) (k' := 81) (pc' := 186) d_Model_findsNodes_183 rfl lk_Model_200 in11 rfl rfl rfl rfl (hM.k rfl) (hM.p (r := some 281) 81 rfl rfl) ?_
                      refine VW.aload_n (pc' := 187) d_Model_findsNodes_186 rfl rfl ?_
                      refine VW.gP (ci := 11) (T := T11) (N := 94) (k := 80) (k' := 80) (pc' := 190) d_Model_findsNodes_187 rfl lk_Model_197 in11 rfl rfl rfl rfl (hM.k rfl) (hM.p (r := some 280) 80 rfl rfl) ?_
                      refine VW.iload_n (pc' := 191) d_Model_findsNodes_190 rfl rfl ?_
                      refine VW.ild (pc' := 192) d_Model_findsNodes_191 rfl (hM.k rfl) (by omega) (by omega) (by first | exact g262 | exact g256 _ _ _ _ | exact l79 | exact r80 | exact t257 _ _ | exact t201 _ _ _ | exact s1 | exact s2 | exact w1 | exact w2 | exact h3 | exact h257b | rfl) ?_
                      refine VW.ild (pc' := 193) d_Model_findsNodes_192 rfl (hM.k rfl) (by omega) (by omega) (by first | exact g262 | exact g256 _ _ _ _ | exact l79 | exact r80 | exact t257 _ _ | exact t201 _ _ _ | exact s1 | exact s2 | exact w1 | exact w2 | exact h3 | exact h257b | rfl) ?_
                      refine VW.iadd (pc' := 194) d_Model_findsNodes_193 rfl (by omega) ?_
                      refine VW.goto (pc' := 199) d_Model_findsNodes_194 rfl ?_
                      refine VW.istore (pc' := 201) d_Model_findsNodes_199 rfl rfl ?_
                      refine VW.pick [0, 1, 2, 3, 4, 5] ?_
                      first | exact F4a c166 (by omega) | exact F4b c166 (by omega) | exact F7 c166
                · exfalso; omega
        · have hl := p1 h0
          obtain ⟨e, r, hst⟩ : ∃ e r, (nsW I (12 * (q + 1)) k) = e :: r := by
            revert hl
            rcases (nsW I (12 * (q + 1)) k) with _ | ⟨e, r⟩
            · intro h; exact absurd h (by decide)
            · intro _; exact ⟨e, r, rfl⟩
          rw [hst] at hN lt pw p12
          have lt1 := lt e List.mem_cons_self
          have pw1 := pw e List.mem_cons_self
          obtain ⟨⟨n1, n2⟩, -⟩ := hN
          have len : (((e :: r : NST).length : Nat) : Int) = (r.length : Int) + 1 := by show ((r.length + 1 : Nat) : Int) = _; omega
          rw [hst] at fin ⊢
          have p13 : (r.length : Int) + 1 ≤ 12 := by omega
          rw [len]
          have F := fin (up2 (up2 (up2 T 279 k (-1)) 280 k (-1)) 279 k e.1) e.2 ((r.length : Int) + 1 + -1) (by unfold nRest; rw [if_neg h2, if_neg h0]; show _ = (r.length : Int); omega) (by omega) (by unfold nLft; rw [if_neg h2, if_neg h0, up2_eq]; rfl) (by unfold nRgt; rw [if_neg h2, up2_o _ _ _ _ (by decide), up2_eq]) (fun o z o1 o2 => (up2_o _ _ _ _ o1).trans ((up2_o _ _ _ _ o2).trans (up2_o _ _ _ _ o1))) (fun o z _ hz1 => (up2_k _ _ _ _ hz1).trans ((up2_k _ _ _ _ hz1).trans (up2_k _ _ _ _ hz1))) (fun z5 z6 => by unfold nWid; rw [if_neg z5, if_neg z6, if_neg h0, if_neg (by omega), if_neg (by omega)]; rfl)
          have s1 : up2 (up2 T 279 k (-1)) 280 k (-1) 283 ((r.length : Int) + 1 - 1) = e.1 := by rw [t283, show (r.length : Int) + 1 - 1 = (r.length : Int) by omega]; exact n1
          have l79 : up2 (up2 (up2 T 279 k (-1)) 280 k (-1)) 279 k e.1 279 k = e.1 := up2_eq _ _ _ _
          have w1 : up2 (up2 (up2 T 279 k (-1)) 280 k (-1)) 279 k e.1 281 e.1 = e.2 := (up2_o _ _ _ _ (by decide)).trans ((t281 _ _ _).trans n2)
          have h3 : up2 (up2 (up2 T 279 k (-1)) 280 k (-1)) 279 k e.1 256 (12 * (q + 1) + (k : Int)) = I 256 (12 * (q + 1) + (k : Int)) := (up2_o _ _ _ _ (by decide)).trans (g256 _ _ _ _)
          clear fin hT fr p0 p1 p2 p5 pw lt hst
          refine VW.iload_n (pc' := 5) d_Model_findsNodes_4 rfl rfl ?_
          refine VW.aload_n (pc' := 6) d_Model_findsNodes_5 rfl rfl ?_
          refine VW.gP (ci := 11) (T := T11) (N := 94) (k := 62) (k' := 62) (pc' := 9) d_Model_findsNodes_6 rfl lk_Model_159 in11 rfl rfl rfl rfl (hM.k rfl) (hM.p (r := some 262) 62 rfl rfl) ?_
          refine VW.iload_n (pc' := 10) d_Model_findsNodes_9 rfl rfl ?_
          refine VW.ild (pc' := 11) d_Model_findsNodes_10 rfl (hM.k rfl) (by omega) (by omega) (by first | exact g262 | exact g256 _ _ _ _ | exact l79 | exact r80 | exact t257 _ _ | exact t201 _ _ _ | exact s1 | exact s2 | exact w1 | exact w2 | exact h3 | rfl) ?_
          refine VW.icmp_ge (tgt := 265) (pc' := 14) d_Model_findsNodes_11 rfl rfl (fun c11 => ?_) (fun c11 => ?_)
          · exfalso; omega
          · refine VW.iload_n (pc' := 15) d_Model_findsNodes_14 rfl rfl ?_
            refine VW.cS (pc' := 18) d_Model_findsNodes_15 rfl ms_Model_base lk_Model_431 rfl rfl rfl (Nat.le_refl _) (Nat.le_refl _) (sp_Model_base (by omega)) rfl rfl ?_
            refine VW.iload_n (pc' := 19) d_Model_findsNodes_18 rfl rfl ?_
            refine VW.iadd (pc' := 20) d_Model_findsNodes_19 rfl (by omega) ?_
            refine VW.istore (pc' := 22) d_Model_findsNodes_20 rfl rfl ?_
            refine VW.aload_n (pc' := 23) d_Model_findsNodes_22 rfl rfl ?_
            refine VW.gP (ci := 11) (T := T11) (N := 94) (k := 79) (k' := 79) (pc' := 26) d_Model_findsNodes_23 rfl lk_Model_194 in11 rfl rfl rfl rfl (hM.k rfl) (hM.p (r := some 279) 79 rfl rfl) ?_
            refine VW.iload_n (pc' := 27) d_Model_findsNodes_26 rfl rfl ?_
            refine VW.iconst (pc' := 28) d_Model_findsNodes_27 rfl (by decide) ?_
            refine VW.iast (pc' := 29) d_Model_findsNodes_28 rfl (hM.k rfl) (by omega) (by omega) ?_
            refine VW.aload_n (pc' := 30) d_Model_findsNodes_29 rfl rfl ?_
            refine VW.gP (ci := 11) (T := T11) (N := 94) (k := 80) (k' := 80) (pc' := 33) d_Model_findsNodes_30 rfl lk_Model_197 in11 rfl rfl rfl rfl (hM.k rfl) (hM.p (r := some 280) 80 rfl rfl) ?_
            refine VW.iload_n (pc' := 34) d_Model_findsNodes_33 rfl rfl ?_
            refine VW.iconst (pc' := 35) d_Model_findsNodes_34 rfl (by decide) ?_
            refine VW.iast (pc' := 36) d_Model_findsNodes_35 rfl (hM.k rfl) (by omega) (by omega) ?_
            refine VW.aload_n (pc' := 37) d_Model_findsNodes_36 rfl rfl ?_
            refine VW.gP (ci := 11) (T := T11) (N := 94) (k := 56) (k' := 56) (pc' := 40) d_Model_findsNodes_37 rfl lk_Model_144 in11 rfl rfl rfl rfl (hM.k rfl) (hM.p (r := some 256) 56 rfl rfl) ?_
            refine VW.iload (pc' := 42) d_Model_findsNodes_40 rfl rfl ?_
            refine VW.ild (pc' := 43) d_Model_findsNodes_42 rfl (hM.k rfl) (by omega) (by omega) (by first | exact g262 | exact g256 _ _ _ _ | exact l79 | exact r80 | exact t257 _ _ | exact t201 _ _ _ | exact s1 | exact s2 | exact w1 | exact w2 | exact h3 | rfl) ?_
            refine VW.iconst (pc' := 44) d_Model_findsNodes_43 rfl (by decide) ?_
            refine VW.icmp_eq (tgt := 59) (pc' := 47) d_Model_findsNodes_44 rfl rfl (fun c44 => ?_) (fun c44 => ?_)
            · exfalso; omega
            · refine VW.aload_n (pc' := 48) d_Model_findsNodes_47 rfl rfl ?_
              refine VW.gP (ci := 11) (T := T11) (N := 94) (k := 56) (k' := 56) (pc' := 51) d_Model_findsNodes_48 rfl lk_Model_144 in11 rfl rfl rfl rfl (hM.k rfl) (hM.p (r := some 256) 56 rfl rfl) ?_
              refine VW.iload (pc' := 53) d_Model_findsNodes_51 rfl rfl ?_
              refine VW.ild (pc' := 54) d_Model_findsNodes_53 rfl (hM.k rfl) (by omega) (by omega) (by first | exact g262 | exact g256 _ _ _ _ | exact l79 | exact r80 | exact t257 _ _ | exact t201 _ _ _ | exact s1 | exact s2 | exact w1 | exact w2 | exact h3 | rfl) ?_
              refine VW.bipush (pc' := 56) d_Model_findsNodes_54 rfl (by decide) ?_
              refine VW.icmp_ne (tgt := 93) (pc' := 59) d_Model_findsNodes_56 rfl rfl (fun c56 => ?_) (fun c56 => ?_)
              · refine VW.aload_n (pc' := 94) d_Model_findsNodes_93 rfl rfl ?_
                refine VW.gP (ci := 11) (T := T11) (N := 94) (k := 56) (k' := 56) (pc' := 97) d_Model_findsNodes_94 rfl lk_Model_144 in11 rfl rfl rfl rfl (hM.k rfl) (hM.p (r := some 256) 56 rfl rfl) ?_
                refine VW.iload (pc' := 99) d_Model_findsNodes_97 rfl rfl ?_
                refine VW.ild (pc' := 100) d_Model_findsNodes_99 rfl (hM.k rfl) (by omega) (by omega) (by first | exact g262 | exact g256 _ _ _ _ | exact l79 | exact r80 | exact t257 _ _ | exact t201 _ _ _ | exact s1 | exact s2 | exact w1 | exact w2 | exact h3 | rfl) ?_
                refine VW.if_eq (tgt := 120) (pc' := 103) d_Model_findsNodes_100 rfl rfl (fun c100 => ?_) (fun c100 => ?_)
                · try have e100 := bIe c100
                  refine VW.aload_n (pc' := 121) d_Model_findsNodes_120 rfl rfl ?_
                  refine VW.gP (ci := 11) (T := T11) (N := 94) (k := 79) (k' := 79) (pc' := 124) d_Model_findsNodes_121 rfl lk_Model_194 in11 rfl rfl rfl rfl (hM.k rfl) (hM.p (r := some 279) 79 rfl rfl) ?_
                  refine VW.iload_n (pc' := 125) d_Model_findsNodes_124 rfl rfl ?_
                  refine VW.ild (pc' := 126) d_Model_findsNodes_125 rfl (hM.k rfl) (by omega) (by omega) (by first | exact g262 | exact g256 _ _ _ _ | exact l79 | exact r80 | exact t257 _ _ | exact t201 _ _ _ | exact s1 | exact s2 | exact w1 | exact w2 | exact h3 | rfl) ?_
                  refine VW.iconst (pc' := 127) d_Model_findsNodes_126 rfl (by decide) ?_
                  refine VW.icmp_ne (tgt := 145) (pc' := 130) d_Model_findsNodes_127 rfl rfl (fun c127 => ?_) (fun c127 => ?_)
                  · refine VW.aload_n (pc' := 146) d_Model_findsNodes_145 rfl rfl ?_
                    refine VW.gP (ci := 11) (T := T11) (N := 94) (k := 81) (k' := 81) (pc' := 149) d_Model_findsNodes_146 rfl lk_Model_200 in11 rfl rfl rfl rfl (hM.k rfl) (hM.p (r := some 281) 81 rfl rfl) ?_
                    refine VW.aload_n (pc' := 150) d_Model_findsNodes_149 rfl rfl ?_
                    refine VW.gP (ci := 11) (T := T11) (N := 94) (k := 79) (k' := 79) (pc' := 153) d_Model_findsNodes_150 rfl lk_Model_194 in11 rfl rfl rfl rfl (hM.k rfl) (hM.p (r := some 279) 79 rfl rfl) ?_
                    refine VW.iload_n (pc' := 154) d_Model_findsNodes_153 rfl rfl ?_
                    refine VW.ild (pc' := 155) d_Model_findsNodes_154 rfl (hM.k rfl) (by omega) (by omega) (by first | exact g262 | exact g256 _ _ _ _ | exact l79 | exact r80 | exact t257 _ _ | exact t201 _ _ _ | exact s1 | exact s2 | exact w1 | exact w2 | exact h3 | rfl) ?_
                    refine VW.ild (pc' := 156) d_Model_findsNodes_155 rfl (hM.k rfl) (by omega) (by omega) (by first | exact g262 | exact g256 _ _ _ _ | exact l79 | exact r80 | exact t257 _ _ | exact t201 _ _ _ | exact s1 | exact s2 | exact w1 | exact w2 | exact h3 | rfl) ?_
                    refine VW.istore (pc' := 158) d_Model_findsNodes_156 rfl rfl ?_
                    refine VW.aload_n (pc' := 159) d_Model_findsNodes_158 rfl rfl ?_
                    refine VW.gP (ci := 11) (T := T11) (N := 94) (k := 56) (k' := 56) (pc' := 162) d_Model_findsNodes_159 rfl lk_Model_144 in11 rfl rfl rfl rfl (hM.k rfl) (hM.p (r := some 256) 56 rfl rfl) ?_
                    refine VW.iload (pc' := 164) d_Model_findsNodes_162 rfl rfl ?_
                    refine VW.ild (pc' := 165) d_Model_findsNodes_164 rfl (hM.k rfl) (by omega) (by omega) (by first | exact g262 | exact g256 _ _ _ _ | exact l79 | exact r80 | exact t257 _ _ | exact t201 _ _ _ | exact s1 | exact s2 | exact w1 | exact w2 | exact h3 | rfl) ?_
                    refine VW.iconst (pc' := 166) d_Model_findsNodes_165 rfl (by decide) ?_
                    refine VW.icmp_ne (tgt := 197) (pc' := 169) d_Model_findsNodes_166 rfl rfl (fun c166 => ?_) (fun c166 => ?_)
                    · refine VW.iload (pc' := 199) d_Model_findsNodes_197 rfl rfl ?_
                      refine VW.istore (pc' := 201) d_Model_findsNodes_199 rfl rfl ?_
                      refine VW.pick [0, 1, 2, 3, 4, 5] ?_
                      first | exact F | (exfalso; omega)
                    · refine VW.aload_n (pc' := 170) d_Model_findsNodes_169 rfl rfl ?_
                      refine VW.gP (ci := 11) (T := T11) (N := 94) (k := 57) (k' := 57) (pc' := 173) d_Model_findsNodes_170 rfl lk_Model_147 in11 rfl rfl rfl rfl (hM.k rfl) (hM.p (r := some 257) 57 rfl rfl) ?_
                      refine VW.iload (pc' := 175) d_Model_findsNodes_173 rfl rfl ?_
                      refine VW.ild (pc' := 176) d_Model_findsNodes_175 rfl (hM.k rfl) (by omega) (by omega) (by first | exact g262 | exact g256 _ _ _ _ | exact l79 | exact r80 | exact t257 _ _ | exact t201 _ _ _ | exact s1 | exact s2 | exact w1 | exact w2 | exact h3 | rfl) ?_
                      refine VW.iconst (pc' := 177) d_Model_findsNodes_176 rfl (by decide) ?_
                      refine VW.icmp_gt (tgt := 197) (pc' := 180) d_Model_findsNodes_177 rfl rfl (fun c177 => ?_) (fun c177 => ?_)
                      · refine VW.iload (pc' := 199) d_Model_findsNodes_197 rfl rfl ?_
                        refine VW.istore (pc' := 201) d_Model_findsNodes_199 rfl rfl ?_
                        refine VW.pick [0, 1, 2, 3, 4, 5] ?_
                        first | exact F | (exfalso; omega)
                      · exfalso; omega
                  · exfalso; omega
                · try have e100 := bIn c100
                  refine VW.aload_n (pc' := 104) d_Model_findsNodes_103 rfl rfl ?_
                  refine VW.gP (ci := 11) (T := T11) (N := 94) (k := 79) (k' := 79) (pc' := 107) d_Model_findsNodes_104 rfl lk_Model_194 in11 rfl rfl rfl rfl (hM.k rfl) (hM.p (r := some 279) 79 rfl rfl) ?_
                  refine VW.iload_n (pc' := 108) d_Model_findsNodes_107 rfl rfl ?_
                  refine VW.aload_n (pc' := 109) d_Model_findsNodes_108 rfl rfl ?_
                  refine VW.gP (ci := 11) (T := T11) (N := 94) (k := 83) (k' := 83) (pc' := 112) d_Model_findsNodes_109 rfl lk_Model_206 in11 rfl rfl rfl rfl (hM.k rfl) (hM.p (r := some 283) 83 rfl rfl) ?_
                  refine VW.iload_n (pc' := 113) d_Model_findsNodes_112 rfl rfl ?_
                  refine VW.iconst (pc' := 114) d_Model_findsNodes_113 rfl (by decide) ?_
                  refine VW.isub (pc' := 115) d_Model_findsNodes_114 rfl (by omega) ?_
                  refine VW.ild (pc' := 116) d_Model_findsNodes_115 rfl (hM.k rfl) (by omega) (by omega) (by first | exact g262 | exact g256 _ _ _ _ | exact l79 | exact r80 | exact t257 _ _ | exact t201 _ _ _ | exact s1 | exact s2 | exact w1 | exact w2 | exact h3 | rfl) ?_
                  refine VW.iast (pc' := 117) d_Model_findsNodes_116 rfl (hM.k rfl) (by omega) (by omega) ?_
                  refine VW.iinc (pc' := 120) d_Model_findsNodes_117 rfl rfl rfl (by omega) ?_
                  refine VW.aload_n (pc' := 121) d_Model_findsNodes_120 rfl rfl ?_
                  refine VW.gP (ci := 11) (T := T11) (N := 94) (k := 79) (k' := 79) (pc' := 124) d_Model_findsNodes_121 rfl lk_Model_194 in11 rfl rfl rfl rfl (hM.k rfl) (hM.p (r := some 279) 79 rfl rfl) ?_
                  refine VW.iload_n (pc' := 125) d_Model_findsNodes_124 rfl rfl ?_
                  refine VW.ild (pc' := 126) d_Model_findsNodes_125 rfl (hM.k rfl) (by omega) (by omega) (by first | exact g262 | exact g256 _ _ _ _ | exact l79 | exact r80 | exact t257 _ _ | exact t201 _ _ _ | exact s1 | exact s2 | exact w1 | exact w2 | exact h3 | rfl) ?_
                  refine VW.iconst (pc' := 127) d_Model_findsNodes_126 rfl (by decide) ?_
                  refine VW.icmp_ne (tgt := 145) (pc' := 130) d_Model_findsNodes_127 rfl rfl (fun c127 => ?_) (fun c127 => ?_)
                  · refine VW.aload_n (pc' := 146) d_Model_findsNodes_145 rfl rfl ?_
                    refine VW.gP (ci := 11) (T := T11) (N := 94) (k := 81) (k' := 81) (pc' := 149) d_Model_findsNodes_146 rfl lk_Model_200 in11 rfl rfl rfl rfl (hM.k rfl) (hM.p (r := some 281) 81 rfl rfl) ?_
                    refine VW.aload_n (pc' := 150) d_Model_findsNodes_149 rfl rfl ?_
                    refine VW.gP (ci := 11) (T := T11) (N := 94) (k := 79) (k' := 79) (pc' := 153) d_Model_findsNodes_150 rfl lk_Model_194 in11 rfl rfl rfl rfl (hM.k rfl) (hM.p (r := some 279) 79 rfl rfl) ?_
                    refine VW.iload_n (pc' := 154) d_Model_findsNodes_153 rfl rfl ?_
                    refine VW.ild (pc' := 155) d_Model_findsNodes_154 rfl (hM.k rfl) (by omega) (by omega) (by first | exact g262 | exact g256 _ _ _ _ | exact l79 | exact r80 | exact t257 _ _ | exact t201 _ _ _ | exact s1 | exact s2 | exact w1 | exact w2 | exact h3 | rfl) ?_
                    refine VW.ild (pc' := 156) d_Model_findsNodes_155 rfl (hM.k rfl) (by omega) (by omega) (by first | exact g262 | exact g256 _ _ _ _ | exact l79 | exact r80 | exact t257 _ _ | exact t201 _ _ _ | exact s1 | exact s2 | exact w1 | exact w2 | exact h3 | rfl) ?_
                    refine VW.istore (pc' := 158) d_Model_findsNodes_156 rfl rfl ?_
                    refine VW.aload_n (pc' := 159) d_Model_findsNodes_158 rfl rfl ?_
                    refine VW.gP (ci := 11) (T := T11) (N := 94) (k := 56) (k' := 56) (pc' := 162) d_Model_findsNodes_159 rfl lk_Model_144 in11 rfl rfl rfl rfl (hM.k rfl) (hM.p (r := some 256) 56 rfl rfl) ?_
                    refine VW.iload (pc' := 164) d_Model_findsNodes_162 rfl rfl ?_
                    refine VW.ild (pc' := 165) d_Model_findsNodes_164 rfl (hM.k rfl) (by omega) (by omega) (by first | exact g262 | exact g256 _ _ _ _ | exact l79 | exact r80 | exact t257 _ _ | exact t201 _ _ _ | exact s1 | exact s2 | exact w1 | exact w2 | exact h3 | rfl) ?_
                    refine VW.iconst (pc' := 166) d_Model_findsNodes_165 rfl (by decide) ?_
                    refine VW.icmp_ne (tgt := 197) (pc' := 169) d_Model_findsNodes_166 rfl rfl (fun c166 => ?_) (fun c166 => ?_)
                    · refine VW.iload (pc' := 199) d_Model_findsNodes_197 rfl rfl ?_
                      refine VW.istore (pc' := 201) d_Model_findsNodes_199 rfl rfl ?_
                      refine VW.pick [0, 1, 2, 3, 4, 5] ?_
                      first | exact F | (exfalso; omega)
                    · refine VW.aload_n (pc' := 170) d_Model_findsNodes_169 rfl rfl ?_
                      refine VW.gP (ci := 11) (T := T11) (N := 94) (k := 57) (k' := 57) (pc' := 173) d_Model_findsNodes_170 rfl lk_Model_147 in11 rfl rfl rfl rfl (hM.k rfl) (hM.p (r := some 257) 57 rfl rfl) ?_
                      refine VW.iload (pc' := 175) d_Model_findsNodes_173 rfl rfl ?_
                      refine VW.ild (pc' := 176) d_Model_findsNodes_175 rfl (hM.k rfl) (by omega) (by omega) (by first | exact g262 | exact g256 _ _ _ _ | exact l79 | exact r80 | exact t257 _ _ | exact t201 _ _ _ | exact s1 | exact s2 | exact w1 | exact w2 | exact h3 | rfl) ?_
                      refine VW.iconst (pc' := 177) d_Model_findsNodes_176 rfl (by decide) ?_
                      refine VW.icmp_gt (tgt := 197) (pc' := 180) d_Model_findsNodes_177 rfl rfl (fun c177 => ?_) (fun c177 => ?_)
                      · refine VW.iload (pc' := 199) d_Model_findsNodes_197 rfl rfl ?_
                        refine VW.istore (pc' := 201) d_Model_findsNodes_199 rfl rfl ?_
                        refine VW.pick [0, 1, 2, 3, 4, 5] ?_
                        first | exact F | (exfalso; omega)
                      · exfalso; omega
                  · exfalso; omega
              · exfalso; omega
  have l := loop n 0 I (by omega) ⟨fun o z _ _ _ _ => rfl, trivial, fun j hj => by omega⟩
  clear loop hE
  refine VW.iconst (pc' := 1) d_Model_findsNodes_0 rfl (by decide) ?_
  refine VW.istore_n (pc' := 2) d_Model_findsNodes_1 rfl rfl ?_
  refine VW.iconst (pc' := 3) d_Model_findsNodes_2 rfl (by decide) ?_
  refine VW.istore_n (pc' := 4) d_Model_findsNodes_3 rfl rfl ?_
  refine VW.nrm ?_
  exact l
end
