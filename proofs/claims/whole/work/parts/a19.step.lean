section
variable {K : KT} {P : PT} {J I : IT}
/-- the stack of results of an evaluator: at the place i there is e i -/
def StW (K : KT) (P : PT) (v sk : Nat) (e : Nat → Nat) : Prop := K v = some (1, 0) ∧ P v 1 = some sk ∧ K sk = some (103, 4) ∧ (∀ i : Nat, i < 4 → P sk (i : Int) = some (e i) ∧ ReW K P (e i) (e i + 1) 5120) ∧ ∀ i j : Nat, i < 4 → j < 4 → i ≠ j → e i ≠ e j
def StkC (I : IT) (e : Nat → Nat) : STK → Prop
  | [] => True
  | x :: rest => RelR I (e rest.length) (e rest.length + 1) x.1 x.2 ∧ StkC I e rest
theorem StkC.of {T : IT} {e e' : Nat → Nat} : ∀ st : STK, StkC I e st → (∀ i : Nat, i < st.length → e' i = e i ∧ T (e i) = I (e i) ∧ T (e i + 1) = I (e i + 1)) → StkC T e' st := by
  intro st
  induction st with
  | nil => intro _ _; exact trivial
  | cons x rest ih =>
    intro h f
    obtain ⟨f1, f2, f3⟩ := f rest.length (Nat.lt_succ_self _)
    refine ⟨?_, ih h.2 (fun i hi => f i (Nat.lt_succ_of_lt hi))⟩
    rw [f1]
    exact h.1.of f2 f3
def swE (e : Nat → Nat) (d t : Nat) : Nat → Nat := fun i => if i = d then e t else if i = t then e d else e i
theorem swE_d {e : Nat → Nat} {d t : Nat} : swE e d t d = e t := if_pos rfl
theorem swE_t {e : Nat → Nat} {d t : Nat} : swE e d t t = e d := by
  unfold swE
  by_cases h : t = d
  · rw [if_pos h, h]
  · rw [if_neg h, if_pos rfl]
theorem swE_o {e : Nat → Nat} {d t i : Nat} (h1 : i ≠ d) (h2 : i ≠ t) : swE e d t i = e i := (if_neg h1).trans (if_neg h2)
theorem StW.sw {v sk d t : Nat} {e : Nat → Nat} (h : StW K P v sk e) (hd : d < 4) (ht : t < 4) : StW K (up2 (up2 P sk (d : Int) (some (e t))) sk (t : Int) (some (e d))) v sk (swE e d t) := by
  obtain ⟨h1, h2, h3, h4, h5⟩ := h
  have nv : v ≠ sk := fun z => by have := h1.symm.trans (z ▸ h3); cases this
  have ni : ∀ i : Nat, i < 4 → e i ≠ sk := fun i hi z => by have := (h4 i hi).2.1.symm.trans (z ▸ h3); cases this
  have po : ∀ (q : Nat) (z : Int), q ≠ sk → up2 (up2 P sk (d : Int) (some (e t))) sk (t : Int) (some (e d)) q z = P q z := fun q z hq => (up2_o _ _ _ _ hq).trans (up2_o _ _ _ _ hq)
  have re : ∀ i : Nat, i < 4 → ReW K (up2 (up2 P sk (d : Int) (some (e t))) sk (t : Int) (some (e d))) (e i) (e i + 1) 5120 := fun i hi => ⟨(h4 i hi).2.1, (po _ _ (ni i hi)).trans (h4 i hi).2.2.1, (h4 i hi).2.2.2⟩
  refine ⟨h1, (po _ _ nv).trans h2, h3, fun i hi => ?_, fun i j hi hj hij => ?_⟩
  · by_cases et : i = t
    · subst et
      rw [up2_eq, swE_t]
      exact ⟨rfl, re d hd⟩
    · by_cases ed : i = d
      · subst ed
        rw [up2_k _ _ _ _ (by omega), up2_eq, swE_d]
        exact ⟨rfl, re t ht⟩
      · rw [up2_k _ _ _ _ (by omega), up2_k _ _ _ _ (by omega), swE_o ed et]
        exact ⟨(h4 i hi).1, re i hi⟩
  · unfold swE
    (repeat' split) <;> first | exact h5 _ _ (by omega) (by omega) (by omega) | (exfalso; omega)
theorem swE_W {W : Nat → Prop} {e : Nat → Nat} {d t : Nat} (hd : d < 4) (ht : t < 4) (h : ∀ i : Nat, i < 4 → W (e i) ∧ W (e i + 1)) : ∀ i : Nat, i < 4 → W (swE e d t i) ∧ W (swE e d t i + 1) := by
  intro i hi
  unfold swE
  (repeat' split) <;> exact h _ (by omega)
/-- what an evaluator holds besides -/
def EvA (K : KT) (P : PT) (v s od sp mm : Nat) : Prop := P v 0 = some s ∧ (P v 2 = some od ∧ K od = some (100, 512)) ∧ (P v 3 = some sp ∧ K sp = some (100, 512)) ∧ P v 4 = some mm ∧ K mm = some (101, 512)
/-- an operator of the class finds what it takes; W is the width that it is told -/
def okC (op A B C W : Int) (st : STK) : Prop :=
  (op = 0 → 0 ≤ A ∧ A < 6) ∧
  ((op = 1 ∨ op = 2 ∨ op = 3 ∨ op = 5 ∨ op = 6) → ∃ z rest, st = z :: rest ∧ chOK op A B C z.1 z.2 ∧ ∀ nt, W = (chL op A B C nt z.1 z.2).1) ∧
  (op = 4 → ∃ z y rest, st = z :: y :: rest ∧ (jWid A y.1 z.1 ≤ 10 ∧ W = jWid A y.1 z.1) ∧ (joinL A B C y.1 z.1 y.2 z.2).length ≤ 512 ∧ (0 ≤ B ∧ B < y.1) ∧ (0 ≤ C ∧ C < z.1)) ∧
  (op = 7 → ∃ z y rest, st = z :: y :: rest ∧ y.1 = z.1 ∧ W = z.1 ∧ y.2.length + z.2.length ≤ 512)
/-- what a table gives to the class -/
noncomputable def scC (I : IT) (s wi vv a : Nat) (y t : Int) : Nat × List (List Int) := ((I wi t).toNat, scanC I s vv a y t (I wi t).toNat 8)
/-- behind a step -/
def StR (K : KT) (P : PT) (J I : IT) (v sk mm : Nat) (e : Nat → Nat) (Wn : Nat → Prop) (st : STK) (F : Prop) (P' : PT) (I' : IT) : Prop := ∃ e', StW K P' v sk e' ∧ (∀ i : Nat, i < 4 → Wn (e' i) ∧ Wn (e' i + 1)) ∧ StkC I' e' st ∧ I' v 5 = st.length ∧ I' v 6 = bI (I v 6 = 1 ∨ F) ∧ (∀ q, q ≠ v → q ≠ mm → ¬ Wn q → I' q = I q) ∧ (∀ j, j ≠ 5 → j ≠ 6 → I' v j = I v j) ∧ ∀ q, q ≠ sk → P' q = P q
theorem st_tail {v sk mm d o : Nat} {e : Nat → Nat} {Wn : Nat → Prop} {st' : STK} {M : Nat × List (List Int)} {rest : STK} {F : Prop} {T : IT} (hS : StW K P v sk e) (hW : ∀ i : Nat, i < 4 → Wn (e i) ∧ Wn (e i + 1)) (hd : d < 4 ∧ o ≤ d) (hst : st' = M :: rest) (hr : rest.length = d - o) (h5 : T v 5 = d) (hM : RelR T (e d) (e d + 1) M.1 M.2) (hR : StkC T e rest) (h6 : T v 6 = bI (I v 6 = 1 ∨ F)) (hf : ∀ q, q ≠ v → q ≠ mm → ¬ Wn q → T q = I q) (hv : ∀ j, j ≠ 5 → j ≠ 6 → T v j = I v j) : VW m_Evaluator_step false (rmv 6 240) (fun r K' P' J' I' => r = .inl none ∧ K' = K ∧ J' = J ∧ StR K P J I v sk mm e Wn st' F P' I' : PQ) K P J T 0 0 209 [(0, vR (some v)), (6, vI (o : Int)), (7, vR (some (e d)))] [] := by
  have hS0 := hS
  obtain ⟨s1, s2, s3, s4, s5⟩ := hS
  have nv : v ≠ sk := fun z => by have := s1.symm.trans (z ▸ s3); cases this
  have sd := s4 d hd.1
  have stt := s4 (d - o) (by omega)
  have ne1 : ∀ i : Nat, i < 4 → e i ≠ v := fun i hi z => by have := (s4 i hi).2.1.symm.trans (z ▸ s1); cases this
  have ne2 : ∀ i : Nat, i < 4 → e i + 1 ≠ v := fun i hi z => by have := (s4 i hi).2.2.2.symm.trans (z ▸ s1); cases this
  have ed : (d : Int) - (o : Int) = ((d - o : Nat) : Int) := by omega
  have pt : P sk ((d : Int) - (o : Int)) = some (e (d - o)) := by rw [ed]; exact stt.1
  have fin : StR K P J I v sk mm e Wn st' F (up2 (up2 P sk (d : Int) (some (e (d - o)))) sk ((d : Int) - (o : Int)) (some (e d))) (up2 T v 5 ((d : Int) - (o : Int) + 1)) := by
    rw [ed]
    refine ⟨swE e d (d - o), hS0.sw hd.1 (by omega), swE_W hd.1 (by omega) hW, ?_, ?_, ?_, ?_, ?_, ?_⟩
    · rw [hst]
      refine ⟨?_, StkC.of rest hR (fun i hi => ?_)⟩
      · rw [hr, swE_t]
        exact hM.of (funext (fun z => up2_o _ _ _ _ (ne1 d hd.1))) (funext (fun z => up2_o _ _ _ _ (ne2 d hd.1)))
      · exact ⟨swE_o (by omega) (by omega), funext (fun z => up2_o _ _ _ _ (ne1 i (by omega))), funext (fun z => up2_o _ _ _ _ (ne2 i (by omega)))⟩
    · rw [up2_eq, hst, List.length_cons, hr]; omega
    · exact (up2_k _ _ _ _ (by decide)).trans h6
    · exact fun q q1 q2 q3 => (funext (fun z => up2_o _ _ _ _ q1)).trans (hf q q1 q2 q3)
    · exact fun j j5 j6 => (up2_k _ _ _ _ j5).trans (hv j j5 j6)
    · exact fun q hq => funext (fun z => (up2_o _ _ _ _ hq).trans (up2_o _ _ _ _ hq))
  have hs2' : up2 P sk (d : Int) (some (e (d - o))) v 1 = some sk := (up2_o _ _ _ _ nv).trans s2
  refine VW.aload_n (pc' := 210) d_Evaluator_step_209 rfl rfl ?_
  refine VW.gI (ci := 1) (T := T1) (N := 7) (k := 5) (k' := 5) (pc' := 213) d_Evaluator_step_210 rfl lk_Evaluator_33 in1 rfl rfl rfl rfl (by first | exact s1 | exact s3 | exact sd.2.1) (by first | exact h5 | exact s2 | exact hs2' | exact pt | rfl) ?_
  refine VW.iload (pc' := 215) d_Evaluator_step_213 rfl rfl ?_
  refine VW.isub (pc' := 216) d_Evaluator_step_215 rfl (by omega) ?_
  refine VW.istore (pc' := 218) d_Evaluator_step_216 rfl rfl ?_
  refine VW.aload_n (pc' := 219) d_Evaluator_step_218 rfl rfl ?_
  refine VW.gP (ci := 1) (T := T1) (N := 7) (k := 1) (k' := 1) (pc' := 222) d_Evaluator_step_219 rfl lk_Evaluator_11 in1 rfl rfl rfl rfl (by first | exact s1 | exact s3 | exact sd.2.1) (s2) ?_
  refine VW.aload_n (pc' := 223) d_Evaluator_step_222 rfl rfl ?_
  refine VW.gI (ci := 1) (T := T1) (N := 7) (k := 5) (k' := 5) (pc' := 226) d_Evaluator_step_223 rfl lk_Evaluator_33 in1 rfl rfl rfl rfl (by first | exact s1 | exact s3 | exact sd.2.1) (by first | exact h5 | exact s2 | exact hs2' | exact pt | rfl) ?_
  refine VW.aload_n (pc' := 227) d_Evaluator_step_226 rfl rfl ?_
  refine VW.gP (ci := 1) (T := T1) (N := 7) (k := 1) (k' := 1) (pc' := 230) d_Evaluator_step_227 rfl lk_Evaluator_11 in1 rfl rfl rfl rfl (by first | exact s1 | exact s3 | exact sd.2.1) (s2) ?_
  refine VW.iload (pc' := 232) d_Evaluator_step_230 rfl rfl ?_
  refine VW.rld (pc' := 233) d_Evaluator_step_232 rfl (by first | exact s1 | exact s3 | exact sd.2.1) (by omega) (by omega) (by first | exact h5 | exact s2 | exact hs2' | exact pt | rfl) ?_
  refine VW.astR (n0 := 0) (pc' := 234) d_Evaluator_step_233 rfl s3 stt.2.1 (by omega) (by omega) ?_
  refine VW.aload_n (pc' := 235) d_Evaluator_step_234 rfl rfl ?_
  refine VW.gP (ci := 1) (T := T1) (N := 7) (k := 1) (k' := 1) (pc' := 238) d_Evaluator_step_235 rfl lk_Evaluator_11 in1 rfl rfl rfl rfl (by first | exact s1 | exact s3 | exact sd.2.1) (hs2') ?_
  refine VW.iload (pc' := 240) d_Evaluator_step_238 rfl rfl ?_
  refine VW.aload (pc' := 242) d_Evaluator_step_240 rfl rfl ?_
  refine VW.astR (n0 := 0) (pc' := 243) d_Evaluator_step_242 rfl s3 sd.2.1 (by omega) (by omega) ?_
  refine VW.aload_n (pc' := 244) d_Evaluator_step_243 rfl rfl ?_
  refine VW.iload (pc' := 246) d_Evaluator_step_244 rfl rfl ?_
  refine VW.iconst (pc' := 247) d_Evaluator_step_246 rfl (by decide) ?_
  refine VW.iadd (pc' := 248) d_Evaluator_step_247 rfl (by omega) ?_
  refine VW.pI (ci := 1) (T := T1) (N := 7) (k := 5) (k' := 5) (ty := ty1) (pc' := 251) d_Evaluator_step_248 rfl lk_Evaluator_33 in1 tk1 nm1 rfl rfl rfl rfl rfl rfl (by first | exact s1 | exact s3 | exact sd.2.1) ?_
  exact VW.vret d_Evaluator_step_251 rfl (Nat.zero_le _) (Nat.zero_le _) (⟨rfl, rfl, rfl, fin⟩)
end
