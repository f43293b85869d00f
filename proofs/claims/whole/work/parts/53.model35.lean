section
variable {K : KT} {P : PT} {J I : IT} {Q : PQ}
theorem so_c1 {S : IT} {w n : Nat} {k : Nat} {far : Int} (hM : MW K P) (hw : w ≤ 10) (hk : 0 ≤ (w : Int) * (k : Int) ∧ (w : Int) * (k : Int) + w ≤ (w : Int) * (n : Int)) (hn : (w : Int) * (n : Int) ≤ 20000) (hQ : VW m_Model_sorts false (rmv 1 24) Q K P J (cpyI S 270 ((w : Int) * (k : Int)) 270 (((w : Int) * (n : Int))) w) 0 0 74 [(0, vR (some 100)), (1, vI (w : Int)), (2, vI (n : Int)), (3, vI ((w : Int) * (n : Int))), (4, vI far), (5, vI (k : Int))] []) : VW m_Model_sorts false (rmv 1 24) Q K P J S 0 0 41 [(0, vR (some 100)), (1, vI (w : Int)), (2, vI (n : Int)), (3, vI ((w : Int) * (n : Int))), (4, vI far), (5, vI (k : Int)), (6, vI 0)] [] := by
  have loop : ∀ (l : Nat) (c : Int), c + l = w → 0 ≤ c → VW m_Model_sorts false (rmv 1 24) Q K P J (cpyI S 270 ((w : Int) * (k : Int)) 270 (((w : Int) * (n : Int))) c) 0 0 41 [(0, vR (some 100)), (1, vI (w : Int)), (2, vI (n : Int)), (3, vI ((w : Int) * (n : Int))), (4, vI far), (5, vI (k : Int)), (6, vI c)] [] := by
    intro l
    induction l with
    | zero =>
      intro c hc h0
      have ec : c = w := by omega
      subst ec
      refine VW.iload (pc' := 43) d_Model_sorts_41 rfl rfl ?_
      refine VW.iload_n (pc' := 44) d_Model_sorts_43 rfl rfl ?_
      refine VW.icmp_ge (tgt := 74) (pc' := 47) d_Model_sorts_44 rfl rfl (fun c44 => ?_) (fun c44 => ?_)
      · refine VW.pick [0, 1, 2, 3, 4, 5] ?_
        exact hQ
      · exfalso; omega
    | succ l ih =>
      intro c hc h0
      have nx := ih (c + 1) (by omega) (by omega)
      rw [← cpyI_stepG (I := S) (s := 270) (a := 270) h0 (cpyI_out (Or.inr (Or.inl (by omega))))] at nx
      clear ih hQ
      refine VW.iload (pc' := 43) d_Model_sorts_41 rfl rfl ?_
      refine VW.iload_n (pc' := 44) d_Model_sorts_43 rfl rfl ?_
      refine VW.icmp_ge (tgt := 74) (pc' := 47) d_Model_sorts_44 rfl rfl (fun c44 => ?_) (fun c44 => ?_)
      · exfalso; omega
      · refine VW.aload_n (pc' := 48) d_Model_sorts_47 rfl rfl ?_
        refine VW.gP (ci := 11) (T := T11) (N := 94) (k := 70) (k' := 70) (pc' := 51) d_Model_sorts_48 rfl lk_Model_178 in11 rfl rfl rfl rfl (hM.k rfl) (hM.p (r := some 270) 70 rfl rfl) ?_
        refine VW.iload_n (pc' := 52) d_Model_sorts_51 rfl rfl ?_
        refine VW.iload (pc' := 54) d_Model_sorts_52 rfl rfl ?_
        refine VW.iadd (pc' := 55) d_Model_sorts_54 rfl (by omega) ?_
        refine VW.aload_n (pc' := 56) d_Model_sorts_55 rfl rfl ?_
        refine VW.gP (ci := 11) (T := T11) (N := 94) (k := 70) (k' := 70) (pc' := 59) d_Model_sorts_56 rfl lk_Model_178 in11 rfl rfl rfl rfl (hM.k rfl) (hM.p (r := some 270) 70 rfl rfl) ?_
        refine VW.iload_n (pc' := 60) d_Model_sorts_59 rfl rfl ?_
        refine VW.iload (pc' := 62) d_Model_sorts_60 rfl rfl ?_
        refine VW.imul (pc' := 63) d_Model_sorts_62 rfl (by omega) ?_
        refine VW.iload (pc' := 65) d_Model_sorts_63 rfl rfl ?_
        refine VW.iadd (pc' := 66) d_Model_sorts_65 rfl (by omega) ?_
        refine VW.ild (pc' := 67) d_Model_sorts_66 rfl (hM.k rfl) (by omega) (by omega) (by first | exact cpyI_out (Or.inr (Or.inl (by omega))) | rfl) ?_
        refine VW.iast (pc' := 68) d_Model_sorts_67 rfl (hM.k rfl) (by omega) (by omega) ?_
        refine VW.iinc (pc' := 71) d_Model_sorts_68 rfl rfl rfl (by omega) ?_
        refine VW.goto (pc' := 41) d_Model_sorts_71 rfl ?_
        refine VW.pick [0, 1, 2, 3, 4, 5, 6] ?_
        exact nx
  have l := loop w 0 (by omega) (by omega)
  rw [cpyI_0] at l
  exact l
theorem so_c2 {S : IT} {w n : Nat} {k : Nat} {far a : Int} (hM : MW K P) (hw : w ≤ 10) (ha : 0 ≤ (w : Int) * (a - far) ∧ (w : Int) * (a - far) + w ≤ (w : Int) * a ∧ (w : Int) * a + w ≤ 20000) (hr : inR (a - far)) (hQ : VW m_Model_sorts false (rmv 1 24) Q K P J (cpyI S 270 ((w : Int) * (a - far)) 270 ((w : Int) * a) w) 0 0 143 [(0, vR (some 100)), (1, vI (w : Int)), (2, vI (n : Int)), (3, vI ((w : Int) * (n : Int))), (4, vI far), (5, vI (k : Int)), (6, vI a)] []) : VW m_Model_sorts false (rmv 1 24) Q K P J S 0 0 104 [(0, vR (some 100)), (1, vI (w : Int)), (2, vI (n : Int)), (3, vI ((w : Int) * (n : Int))), (4, vI far), (5, vI (k : Int)), (6, vI a), (7, vI 0)] [] := by
  have loop : ∀ (l : Nat) (c : Int), c + l = w → 0 ≤ c → VW m_Model_sorts false (rmv 1 24) Q K P J (cpyI S 270 ((w : Int) * (a - far)) 270 ((w : Int) * a) c) 0 0 104 [(0, vR (some 100)), (1, vI (w : Int)), (2, vI (n : Int)), (3, vI ((w : Int) * (n : Int))), (4, vI far), (5, vI (k : Int)), (6, vI a), (7, vI c)] [] := by
    intro l
    induction l with
    | zero =>
      intro c hc h0
      have ec : c = w := by omega
      subst ec
      refine VW.iload (pc' := 106) d_Model_sorts_104 rfl rfl ?_
      refine VW.iload_n (pc' := 107) d_Model_sorts_106 rfl rfl ?_
      refine VW.icmp_ge (tgt := 143) (pc' := 110) d_Model_sorts_107 rfl rfl (fun c107 => ?_) (fun c107 => ?_)
      · refine VW.pick [0, 1, 2, 3, 4, 5, 6] ?_
        exact hQ
      · exfalso; omega
    | succ l ih =>
      intro c hc h0
      have nx := ih (c + 1) (by omega) (by omega)
      rw [← cpyI_stepG (I := S) (s := 270) (a := 270) h0 (cpyI_out (Or.inr (Or.inl (by omega))))] at nx
      clear ih hQ
      refine VW.iload (pc' := 106) d_Model_sorts_104 rfl rfl ?_
      refine VW.iload_n (pc' := 107) d_Model_sorts_106 rfl rfl ?_
      refine VW.icmp_ge (tgt := 143) (pc' := 110) d_Model_sorts_107 rfl rfl (fun c107 => ?_) (fun c107 => ?_)
      · exfalso; omega
      · refine VW.aload_n (pc' := 111) d_Model_sorts_110 rfl rfl ?_
        refine VW.gP (ci := 11) (T := T11) (N := 94) (k := 70) (k' := 70) (pc' := 114) d_Model_sorts_111 rfl lk_Model_178 in11 rfl rfl rfl rfl (hM.k rfl) (hM.p (r := some 270) 70 rfl rfl) ?_
        refine VW.iload_n (pc' := 115) d_Model_sorts_114 rfl rfl ?_
        refine VW.iload (pc' := 117) d_Model_sorts_115 rfl rfl ?_
        refine VW.imul (pc' := 118) d_Model_sorts_117 rfl (by omega) ?_
        refine VW.iload (pc' := 120) d_Model_sorts_118 rfl rfl ?_
        refine VW.iadd (pc' := 121) d_Model_sorts_120 rfl (by omega) ?_
        refine VW.aload_n (pc' := 122) d_Model_sorts_121 rfl rfl ?_
        refine VW.gP (ci := 11) (T := T11) (N := 94) (k := 70) (k' := 70) (pc' := 125) d_Model_sorts_122 rfl lk_Model_178 in11 rfl rfl rfl rfl (hM.k rfl) (hM.p (r := some 270) 70 rfl rfl) ?_
        refine VW.iload_n (pc' := 126) d_Model_sorts_125 rfl rfl ?_
        refine VW.iload (pc' := 128) d_Model_sorts_126 rfl rfl ?_
        refine VW.iload (pc' := 130) d_Model_sorts_128 rfl rfl ?_
        refine VW.isub (pc' := 131) d_Model_sorts_130 rfl (by omega) ?_
        refine VW.imul (pc' := 132) d_Model_sorts_131 rfl (by omega) ?_
        refine VW.iload (pc' := 134) d_Model_sorts_132 rfl rfl ?_
        refine VW.iadd (pc' := 135) d_Model_sorts_134 rfl (by omega) ?_
        refine VW.ild (pc' := 136) d_Model_sorts_135 rfl (hM.k rfl) (by omega) (by omega) (by first | exact cpyI_out (Or.inr (Or.inl (by omega))) | rfl) ?_
        refine VW.iast (pc' := 137) d_Model_sorts_136 rfl (hM.k rfl) (by omega) (by omega) ?_
        refine VW.iinc (pc' := 140) d_Model_sorts_137 rfl rfl rfl (by omega) ?_
        refine VW.goto (pc' := 104) d_Model_sorts_140 rfl ?_
        refine VW.pick [0, 1, 2, 3, 4, 5, 6, 7] ?_
        exact nx
  have l := loop w 0 (by omega) (by omega)
  rw [cpyI_0] at l
  exact l
theorem so_c3 {S : IT} {w n : Nat} {k : Nat} {far a : Int} (hM : MW K P) (hw : w ≤ 10) (ha : 0 ≤ (w : Int) * a ∧ (w : Int) * a + w ≤ (w : Int) * (n : Int)) (hn : (w : Int) * (n : Int) ≤ 20000) (hQ : VW m_Model_sorts false (rmv 1 24) Q K P J (cpyI S 270 (((w : Int) * (n : Int))) 270 ((w : Int) * a) w) 0 0 189 [(0, vR (some 100)), (1, vI (w : Int)), (2, vI (n : Int)), (3, vI ((w : Int) * (n : Int))), (4, vI far), (5, vI (k : Int)), (6, vI a)] []) : VW m_Model_sorts false (rmv 1 24) Q K P J S 0 0 156 [(0, vR (some 100)), (1, vI (w : Int)), (2, vI (n : Int)), (3, vI ((w : Int) * (n : Int))), (4, vI far), (5, vI (k : Int)), (6, vI a), (7, vI 0)] [] := by
  have loop : ∀ (l : Nat) (c : Int), c + l = w → 0 ≤ c → VW m_Model_sorts false (rmv 1 24) Q K P J (cpyI S 270 (((w : Int) * (n : Int))) 270 ((w : Int) * a) c) 0 0 156 [(0, vR (some 100)), (1, vI (w : Int)), (2, vI (n : Int)), (3, vI ((w : Int) * (n : Int))), (4, vI far), (5, vI (k : Int)), (6, vI a), (7, vI c)] [] := by
    intro l
    induction l with
    | zero =>
      intro c hc h0
      have ec : c = w := by omega
      subst ec
      refine VW.iload (pc' := 158) d_Model_sorts_156 rfl rfl ?_
      refine VW.iload_n (pc' := 159) d_Model_sorts_158 rfl rfl ?_
      refine VW.icmp_ge (tgt := 189) (pc' := 162) d_Model_sorts_159 rfl rfl (fun c159 => ?_) (fun c159 => ?_)
      · refine VW.pick [0, 1, 2, 3, 4, 5, 6] ?_
        exact hQ
      · exfalso; omega
    | succ l ih =>
      intro c hc h0
      have nx := ih (c + 1) (by omega) (by omega)
      rw [← cpyI_stepG (I := S) (s := 270) (a := 270) h0 (cpyI_out (Or.inr (Or.inr (by omega))))] at nx
      clear ih hQ
      refine VW.iload (pc' := 158) d_Model_sorts_156 rfl rfl ?_
      refine VW.iload_n (pc' := 159) d_Model_sorts_158 rfl rfl ?_
      refine VW.icmp_ge (tgt := 189) (pc' := 162) d_Model_sorts_159 rfl rfl (fun c159 => ?_) (fun c159 => ?_)
      · exfalso; omega
      · refine VW.aload_n (pc' := 163) d_Model_sorts_162 rfl rfl ?_
        refine VW.gP (ci := 11) (T := T11) (N := 94) (k := 70) (k' := 70) (pc' := 166) d_Model_sorts_163 rfl lk_Model_178 in11 rfl rfl rfl rfl (hM.k rfl) (hM.p (r := some 270) 70 rfl rfl) ?_
        refine VW.iload_n (pc' := 167) d_Model_sorts_166 rfl rfl ?_
        refine VW.iload (pc' := 169) d_Model_sorts_167 rfl rfl ?_
        refine VW.imul (pc' := 170) d_Model_sorts_169 rfl (by omega) ?_
        refine VW.iload (pc' := 172) d_Model_sorts_170 rfl rfl ?_
        refine VW.iadd (pc' := 173) d_Model_sorts_172 rfl (by omega) ?_
        refine VW.aload_n (pc' := 174) d_Model_sorts_173 rfl rfl ?_
        refine VW.gP (ci := 11) (T := T11) (N := 94) (k := 70) (k' := 70) (pc' := 177) d_Model_sorts_174 rfl lk_Model_178 in11 rfl rfl rfl rfl (hM.k rfl) (hM.p (r := some 270) 70 rfl rfl) ?_
        refine VW.iload_n (pc' := 178) d_Model_sorts_177 rfl rfl ?_
        refine VW.iload (pc' := 180) d_Model_sorts_178 rfl rfl ?_
        refine VW.iadd (pc' := 181) d_Model_sorts_180 rfl (by omega) ?_
        refine VW.ild (pc' := 182) d_Model_sorts_181 rfl (hM.k rfl) (by omega) (by omega) (by first | exact cpyI_out (Or.inr (Or.inr (by omega))) | rfl) ?_
        refine VW.iast (pc' := 183) d_Model_sorts_182 rfl (hM.k rfl) (by omega) (by omega) ?_
        refine VW.iinc (pc' := 186) d_Model_sorts_183 rfl rfl rfl (by omega) ?_
        refine VW.goto (pc' := 156) d_Model_sorts_186 rfl ?_
        refine VW.pick [0, 1, 2, 3, 4, 5, 6, 7] ?_
        exact nx
  have l := loop w 0 (by omega) (by omega)
  rw [cpyI_0] at l
  exact l
/-- a row copied to a place of the rows -/
theorem seg_cpy {S : IT} {w n i : Nat} {A : Int} : seg (cpyI S 270 A 270 ((w : Int) * (i : Int)) w) 270 0 w n = (seg S 270 0 w n).set i (rowAt S 270 A w) := by
  refine seg_set (by rw [Int.zero_add]; exact rowAt_cpy) (fun q h => ?_)
  rw [Int.zero_add] at h
  exact cpyI_out (by omega)
/-- inserting: x is in hand, place a is free -/
def InsI (I T : IT) (w n k a : Nat) (far : Int) (x : List Int) : Prop :=
  ((∀ (o : Nat) (q : Int), o ≠ 270 → T o q = I o q) ∧ rowAt T 270 ((w : Int) * (n : Int)) w = x ∧ ((seg T 270 0 w n).set a x).Perm (seg I 270 0 w n)) ∧
  (far = 1 → ∃ (A B D : List (List Int)) (j : List Int), seg T 270 0 w n = A ++ j :: (B ++ D) ∧ A.length = a ∧ A.length + B.length = k ∧ Ris (A ++ B) ∧ ∀ b ∈ B, rlt x b)
def KvI (I T : IT) (w n k : Nat) (far : Int) : Prop := (∀ (o : Nat) (q : Int), o ≠ 270 → T o q = I o q) ∧ (seg T 270 0 w n).Perm (seg I 270 0 w n) ∧ (far = 1 → Ris ((seg T 270 0 w n).take k))
theorem InsI.shift {T : IT} {w n k a d : Nat} {far : Int} {x : List Int} (h : InsI I T w n k a far x) (ha : a ≤ k) (hk : k < n) (hd : (d : Int) = a - far) (h1 : 1 ≤ far) (hx : rlt x (rowAt T 270 ((w : Int) * (d : Int)) w)) : InsI I (cpyI T 270 ((w : Int) * (d : Int)) 270 ((w : Int) * (a : Int)) w) w n k d far x := by
  have s1 := mulStep (w := (w : Int)) (k := (a : Int)) (n := (n : Int)) (by omega) (by omega)
  obtain ⟨⟨f1, f2, f3⟩, g⟩ := h
  have ey : (seg T 270 0 w n)[d]? = some (rowAt T 270 ((w : Int) * (d : Int)) w) := by rw [seg_get (by omega), Int.zero_add]
  refine ⟨⟨fun o q ho => (cpyI_out (Or.inl ho)).trans (f1 o q ho), ?_, ?_⟩, fun hf => ?_⟩
  · rw [← f2]
    exact rowAt_congr (fun c c0 c1 => cpyI_out (Or.inr (Or.inr (by omega))))
  · rw [seg_cpy]
    refine List.Perm.trans ?_ f3
    have lC : ((seg T 270 0 w n).set a x).length = n := by rw [List.length_set, seg_len]
    have p := List.set_set_perm (as := (seg T 270 0 w n).set a x) (i := a) (j := d) (by omega) (by omega)
    have e1 : ((seg T 270 0 w n).set a x)[d]'(by omega) = rowAt T 270 ((w : Int) * (d : Int)) w := by
      rw [List.getElem_set_ne (by omega)]
      exact (List.getElem?_eq_some_iff.1 ey).2
    have e2 : ((seg T 270 0 w n).set a x)[a]'(by omega) = x := List.getElem_set_self (by omega)
    rw [e1, e2, List.set_set] at p
    exact p
  · obtain ⟨A, B, D, j, q1, q2, q3, q4, q5⟩ := g hf
    rcases List.eq_nil_or_concat A with z | ⟨A0, y, z⟩
    · rw [z] at q2
      have : a = 0 := q2.symm
      omega
    · rw [List.concat_eq_append] at z
      subst z
      have la : A0.length = d := by rw [List.length_append] at q2; simp at q2; omega
      have hy : rowAt T 270 ((w : Int) * (d : Int)) w = y := by
        rw [q1, List.append_assoc, List.getElem?_append_right (by omega), la, Nat.sub_self] at ey
        exact (Option.some.inj ey).symm
      refine ⟨A0, y :: B, D, y, ?_, la, by rw [List.length_append] at q3; simp at q3 ⊢; omega, by rw [List.append_assoc] at q4; exact q4, fun b hb => ?_⟩
      · rw [seg_cpy, hy, q1, List.set_append_right _ _ (by omega), q2, Nat.sub_self]
        simp
      · rcases List.mem_cons.1 hb with e | e
        · rw [e, ← hy]; exact hx
        · exact q5 b e
theorem InsI.done {T : IT} {w n k a : Nat} {far : Int} {x : List Int} (h : InsI I T w n k a far x) (ha : a ≤ k) (hk : k < n) (h1 : 1 ≤ far) (hx : (a : Int) < far ∨ ∃ d : Nat, (d : Int) = a - far ∧ ¬ rlt x (rowAt T 270 ((w : Int) * (d : Int)) w)) : KvI I (cpyI T 270 ((w : Int) * (n : Int)) 270 ((w : Int) * (a : Int)) w) w n (k + 1) far := by
  obtain ⟨⟨f1, f2, f3⟩, g⟩ := h
  refine ⟨fun o q ho => (cpyI_out (Or.inl ho)).trans (f1 o q ho), by rw [seg_cpy, f2]; exact f3, fun hf => ?_⟩
  obtain ⟨A, B, D, j, q1, q2, q3, q4, q5⟩ := g hf
  have lx : x.length = w := by rw [← f2]; exact rowAt_len
  have rw1 : ∀ r ∈ seg T 270 0 w n, r.length = w := seg_w
  rw [seg_cpy, f2, q1, List.set_append_right _ _ (by omega), q2, Nat.sub_self]
  show Ris ((A ++ x :: (B ++ D)).take (k + 1))
  rw [show A ++ x :: (B ++ D) = (A ++ x :: B) ++ D by simp, List.take_left' (by simp; omega)]
  refine ris_put (fun r hr => by rw [lx]; exact rw1 r (by rw [q1]; exact List.mem_append_left _ hr)) q4 q5 ?_
  rcases hx with z | ⟨d, hd, z⟩
  · left
    exact List.eq_nil_of_length_eq_zero (by omega)
  · right
    rcases List.eq_nil_or_concat A with y | ⟨A0, y, e⟩
    · rw [y] at q2
      have : a = 0 := q2.symm
      omega
    · rw [List.concat_eq_append] at e
      refine ⟨A0, y, e, ?_⟩
      have ey : (seg T 270 0 w n)[d]? = some (rowAt T 270 ((w : Int) * (d : Int)) w) := by rw [seg_get (by omega), Int.zero_add]
      have la : A0.length = d := by rw [e, List.length_append] at q2; simp at q2; omega
      rw [q1, e, List.append_assoc, List.getElem?_append_right (by omega), la, Nat.sub_self] at ey
      rw [Option.some.inj ey]
      exact z
theorem KvI.start {T : IT} {w n k : Nat} {far : Int} (h : KvI I T w n k far) (hk : k < n) : InsI I (cpyI T 270 ((w : Int) * (k : Int)) 270 ((w : Int) * (n : Int)) w) w n k k far (rowAt T 270 ((w : Int) * (k : Int)) w) := by
  have es : seg (cpyI T 270 ((w : Int) * (k : Int)) 270 ((w : Int) * (n : Int)) w) 270 0 w n = seg T 270 0 w n := seg_congr (fun q a c => cpyI_out (Or.inr (Or.inl (by omega))))
  have ey : (seg T 270 0 w n)[k]? = some (rowAt T 270 ((w : Int) * (k : Int)) w) := by rw [seg_get hk, Int.zero_add]
  refine ⟨⟨fun o q ho => (cpyI_out (Or.inl ho)).trans (h.1 o q ho), rowAt_cpy, ?_⟩, fun hf => ?_⟩
  · rw [es]
    have : (seg T 270 0 w n).set k (rowAt T 270 ((w : Int) * (k : Int)) w) = seg T 270 0 w n := by
      apply List.ext_getElem?
      intro i
      by_cases e : k = i
      · subst e; rw [List.getElem?_set_self (by rw [seg_len]; exact hk), ey]
      · rw [List.getElem?_set_ne e]
    rw [this]; exact h.2.1
  · rw [es]
    have lk : ((seg T 270 0 w n).take k).length = k := by rw [List.length_take, seg_len]; omega
    refine ⟨(seg T 270 0 w n).take k, [], (seg T 270 0 w n).drop (k + 1), rowAt T 270 ((w : Int) * (k : Int)) w, ?_, lk, by rw [lk]; rfl, by rw [List.append_nil]; exact h.2.2 hf, fun b hb => by cases hb⟩
    have hk2 : k < (seg T 270 0 w n).length := by rw [seg_len]; exact hk
    have e1 := (List.getElem?_eq_some_iff.1 ey).2
    rw [List.nil_append, ← e1, List.getElem_cons_drop, List.take_append_drop]
theorem so_while {w n k : Nat} {far : Int} (hM : MW K P) (hw : w ≤ 10) (hN : n ≤ 512) (hk : k < n) (hf : 1 ≤ far ∧ far ≤ 600) (hQ : ∀ T (z : Int), KvI I T w n (k + 1) far → VW m_Model_sorts false (rmv 1 24) Q K P J T 0 0 189 [(0, vR (some 100)), (1, vI (w : Int)), (2, vI (n : Int)), (3, vI ((w : Int) * (n : Int))), (4, vI far), (5, vI (k : Int)), (6, vI z)] []) : ∀ (l a : Nat) (T : IT) (x : List Int), a ≤ l → a ≤ k → InsI I T w n k a far x → VW m_Model_sorts false (rmv 1 24) Q K P J T 0 0 78 [(0, vR (some 100)), (1, vI (w : Int)), (2, vI (n : Int)), (3, vI ((w : Int) * (n : Int))), (4, vI far), (5, vI (k : Int)), (6, vI (a : Int))] [] := by
  intro l
  have hwn : (w : Int) * (n : Int) ≤ 10 * 512 := mulUp (by omega) (by omega) (by omega) (by omega)
  have fin : ∀ (a : Nat) (T : IT) (x : List Int), a ≤ k → InsI I T w n k a far x → ((a : Int) < far ∨ ∃ d : Nat, (d : Int) = a - far ∧ ¬ rlt x (rowAt T 270 ((w : Int) * (d : Int)) w)) → VW m_Model_sorts false (rmv 1 24) Q K P J T 0 0 153 [(0, vR (some 100)), (1, vI (w : Int)), (2, vI (n : Int)), (3, vI ((w : Int) * (n : Int))), (4, vI far), (5, vI (k : Int)), (6, vI (a : Int))] [] := by
    intro a T x ha hT hx
    have s1 := mulStep (w := (w : Int)) (k := (a : Int)) (n := (n : Int)) (by omega) (by omega)
    have s2 := mulNN (w := (w : Int)) (k := (a : Int)) (by omega) (by omega)
    have c := so_c3 (S := T) (w := w) (n := n) (k := k) (far := far) (a := (a : Int)) hM hw ⟨s2, s1⟩ (by omega) (hQ _ _ (hT.done ha hk hf.1 hx))
    clear hQ hT
    refine VW.iconst (pc' := 154) d_Model_sorts_153 rfl (by decide) ?_
    refine VW.istore (pc' := 156) d_Model_sorts_154 rfl rfl ?_
    refine VW.nrm ?_
    exact c
  induction l with
  | zero =>
    intro a T x hl ha hT
    have f := fin a T x ha hT
    have f1 := f (Or.inl (by omega))
    clear fin f hQ hT
    refine VW.iload (pc' := 80) d_Model_sorts_78 rfl rfl ?_
    refine VW.iload (pc' := 82) d_Model_sorts_80 rfl rfl ?_
    refine VW.icmp_lt (tgt := 153) (pc' := 85) d_Model_sorts_82 rfl rfl (fun c82 => ?_) (fun c82 => ?_)
    · refine VW.nrm ?_
      exact f1
    · exfalso; omega
  | succ l ih =>
    intro a T x hl ha hT
    have f := fin a T x ha hT
    have f1 := fun z => f (Or.inl z)
    have s1 := mulStep (w := (w : Int)) (k := (a : Int)) (n := (n : Int)) (by omega) (by omega)
    have s0 := mulNN (w := (w : Int)) (k := (a : Int)) (by omega) (by omega)
    have n0 := mulNN (w := (w : Int)) (k := (n : Int)) (by omega) (by omega)
    have big : ¬ (a : Int) < far → VW m_Model_sorts false (rmv 1 24) Q K P J T 0 0 85 [(0, vR (some 100)), (1, vI (w : Int)), (2, vI (n : Int)), (3, vI ((w : Int) * (n : Int))), (4, vI far), (5, vI (k : Int)), (6, vI (a : Int))] [] := by
      intro hb
      obtain ⟨d, hd⟩ : ∃ d : Nat, (d : Int) = a - far := ⟨((a : Int) - far).toNat, by omega⟩
      have s2 := mulNN (w := (w : Int)) (k := (d : Int)) (by omega) (by omega)
      have s3 := mulStep (w := (w : Int)) (k := (d : Int)) (n := (a : Int)) (by omega) (by omega)
      have f2 := fun (z : ¬ rlt x (rowAt T 270 ((w : Int) * (d : Int)) w)) => f (Or.inr ⟨d, hd, z⟩)
      have nx := fun (z : rlt x (rowAt T 270 ((w : Int) * (d : Int)) w)) => ih d _ x (by omega) (by omega) (hT.shift ha hk hd hf.1 z)
      have ah := sp_Model_isAhead (K := K) (P := P) (J := J) (I := T) (a := (w : Int) * (n : Int)) (b := (w : Int) * (d : Int)) (w := w) hM hw (by omega) (by omega)
      rw [hT.1.2.1] at ah
      have body : rlt x (rowAt T 270 ((w : Int) * (d : Int)) w) → VW m_Model_sorts false (rmv 1 24) Q K P J T 0 0 104 [(0, vR (some 100)), (1, vI (w : Int)), (2, vI (n : Int)), (3, vI ((w : Int) * (n : Int))), (4, vI far), (5, vI (k : Int)), (6, vI (a : Int)), (7, vI 0)] [] := by
        intro z
        have n1 := nx z
        have c := so_c2 (Q := Q) (K := K) (P := P) (J := J) (S := T) (w := w) (n := n) (k := k) (far := far) (a := (a : Int)) hM hw (by rw [← hd]; omega) (by omega)
        rw [hd] at n1
        have c2 : VW m_Model_sorts false (rmv 1 24) Q K P J (cpyI T 270 ((w : Int) * ((a : Int) - far)) 270 ((w : Int) * (a : Int)) w) 0 0 143 [(0, vR (some 100)), (1, vI (w : Int)), (2, vI (n : Int)), (3, vI ((w : Int) * (n : Int))), (4, vI far), (5, vI (k : Int)), (6, vI (a : Int))] [] := by
          clear c nx f2 f f1 ah ih fin hQ hT
          refine VW.iload (pc' := 145) d_Model_sorts_143 rfl rfl ?_
          refine VW.iload (pc' := 147) d_Model_sorts_145 rfl rfl ?_
          refine VW.isub (pc' := 148) d_Model_sorts_147 rfl (by omega) ?_
          refine VW.istore (pc' := 150) d_Model_sorts_148 rfl rfl ?_
          refine VW.goto (pc' := 78) d_Model_sorts_150 rfl ?_
          refine VW.nrm ?_
          exact n1
        exact c c2
      rw [hd] at ah f2 body s2 s3
      clear nx f f1 ih fin hQ hT
      refine VW.aload_n (pc' := 86) d_Model_sorts_85 rfl rfl ?_
      refine VW.iload_n (pc' := 87) d_Model_sorts_86 rfl rfl ?_
      refine VW.iload_n (pc' := 88) d_Model_sorts_87 rfl rfl ?_
      refine VW.iload (pc' := 90) d_Model_sorts_88 rfl rfl ?_
      refine VW.iload (pc' := 92) d_Model_sorts_90 rfl rfl ?_
      refine VW.isub (pc' := 93) d_Model_sorts_92 rfl (by omega) ?_
      refine VW.imul (pc' := 94) d_Model_sorts_93 rfl (by omega) ?_
      refine VW.iload_n (pc' := 95) d_Model_sorts_94 rfl rfl ?_
      refine VW.cV (ci := 11) (T := T11) (N := 94) (pc' := 98) d_Model_sorts_95 rfl mv_Model_isAhead lk_Model_463 rfl (hM.k rfl) rfl rfl rfl (Nat.le_refl _) (Nat.le_refl _) (ah) rfl rfl ?_
      refine VW.if_eq (tgt := 153) (pc' := 101) d_Model_sorts_98 rfl rfl (fun c98 => ?_) (fun c98 => ?_)
      · try have e98 := bIe c98
        refine VW.nrm ?_
        exact f2 e98
      · try have e98 := bIn c98
        refine VW.iconst (pc' := 102) d_Model_sorts_101 rfl (by decide) ?_
        refine VW.istore (pc' := 104) d_Model_sorts_102 rfl rfl ?_
        refine VW.nrm ?_
        exact body e98
    clear f ih fin hQ hT
    refine VW.iload (pc' := 80) d_Model_sorts_78 rfl rfl ?_
    refine VW.iload (pc' := 82) d_Model_sorts_80 rfl rfl ?_
    refine VW.icmp_lt (tgt := 153) (pc' := 85) d_Model_sorts_82 rfl rfl (fun c82 => ?_) (fun c82 => ?_)
    · refine VW.nrm ?_
      exact f1 c82
    · refine VW.nrm ?_
      exact big (by omega)
end
