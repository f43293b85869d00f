section
variable {K : KT} {P : PT} {J I : IT}
/-- nothing is gone or blank below n -/
def mClr (S : IT) (n : Int) : IT := fun o q => if (o = 239 ∨ o = 240) ∧ 0 ≤ q ∧ q < n then 0 else S o q
theorem mClr_0 {S : IT} : mClr S 0 = S := by
  funext o q
  exact if_neg (by omega)
theorem mClr_step {S : IT} {n : Int} (h : 0 ≤ n) : up2 (up2 (mClr S n) 239 n 0) 240 n 0 = mClr S (n + 1) := by
  funext o q
  unfold up2 mClr
  by_cases h1 : o = 240 ∧ q = n
  · rw [if_pos h1, if_pos (by omega)]
  · rw [if_neg h1]
    by_cases h2 : o = 239 ∧ q = n
    · rw [if_pos h2, if_pos (by omega)]
    · rw [if_neg h2]
      by_cases h3 : (o = 239 ∨ o = 240) ∧ 0 ≤ q ∧ q < n
      · rw [if_pos h3, if_pos (by omega)]
      · rw [if_neg h3, if_neg (by omega)]
theorem mClr_fr {S : IT} {n : Int} (o : Nat) (k : Int) (h1 : o ≠ 239) (h2 : o ≠ 240) : mClr S n o k = S o k := if_neg (by omega)
theorem wd_clear {Q : PQ} {S : IT} {i t s f : Int} (hM : MW K P) (hw : VW m_Model_wantsDelete false (rmv 4 100) Q K P J (mClr S 384) 0 0 98 [(0, vR (some 100)), (1, vI i), (2, vI t), (3, vI s), (4, vI f)] []) : ∀ (n : Nat) (c : Int), c + n = 384 → 0 ≤ c → VW m_Model_wantsDelete false (rmv 4 100) Q K P J (mClr S c) 0 0 68 [(0, vR (some 100)), (1, vI i), (2, vI t), (3, vI s), (4, vI f), (5, vI c)] [] := by
  intro n
  induction n with
  | zero =>
    intro c hc hq
    refine VW.iload (pc' := 70) d_Model_wantsDelete_68 rfl rfl ?_
    refine VW.sipush (pc' := 73) d_Model_wantsDelete_70 rfl (by decide) ?_
    refine VW.icmp_ge (tgt := 98) (pc' := 76) d_Model_wantsDelete_73 rfl rfl (fun c73 => ?_) (fun c73 => ?_)
    · refine VW.pick [0, 1, 2, 3, 4] ?_
      rw [show c = 384 by omega]
      exact hw
    · exfalso; omega
  | succ n ih =>
    intro c hc hq
    refine VW.iload (pc' := 70) d_Model_wantsDelete_68 rfl rfl ?_
    refine VW.sipush (pc' := 73) d_Model_wantsDelete_70 rfl (by decide) ?_
    refine VW.icmp_ge (tgt := 98) (pc' := 76) d_Model_wantsDelete_73 rfl rfl (fun c73 => ?_) (fun c73 => ?_)
    · exfalso; omega
    · refine VW.aload_n (pc' := 77) d_Model_wantsDelete_76 rfl rfl ?_
      refine VW.gP (ci := 11) (T := T11) (N := 94) (k := 39) (k' := 39) (pc' := 80) d_Model_wantsDelete_77 rfl lk_Model_114 in11 rfl rfl rfl rfl (hM.k rfl) (hM.p (r := some 239) 39 rfl rfl) ?_
      refine VW.iload (pc' := 82) d_Model_wantsDelete_80 rfl rfl ?_
      refine VW.iconst (pc' := 83) d_Model_wantsDelete_82 rfl (by decide) ?_
      refine VW.zast (pc' := 84) d_Model_wantsDelete_83 rfl (hM.k rfl) (by omega) (by omega) (by omega) ?_
      refine VW.aload_n (pc' := 85) d_Model_wantsDelete_84 rfl rfl ?_
      refine VW.gP (ci := 11) (T := T11) (N := 94) (k := 40) (k' := 40) (pc' := 88) d_Model_wantsDelete_85 rfl lk_Model_117 in11 rfl rfl rfl rfl (hM.k rfl) (hM.p (r := some 240) 40 rfl rfl) ?_
      refine VW.iload (pc' := 90) d_Model_wantsDelete_88 rfl rfl ?_
      refine VW.iconst (pc' := 91) d_Model_wantsDelete_90 rfl (by decide) ?_
      refine VW.zast (pc' := 92) d_Model_wantsDelete_91 rfl (hM.k rfl) (by omega) (by omega) (by omega) ?_
      refine VW.nrm ?_
      rw [mClr_step hq]
      refine VW.iinc (pc' := 95) d_Model_wantsDelete_92 rfl rfl rfl (by omega) ?_
      refine VW.goto (pc' := 68) d_Model_wantsDelete_95 rfl ?_
      refine VW.nrm ?_
      exact ih (c + 1) (by omega) (by omega)
def mRowIn (S : IT) (s k : Int) : Prop := k.tmod 64 < S 214 (6 * s + k.tdiv 64)
/-- place k goes with what it refers to -/
def mSpG (S : IT) (s k : Int) : Prop := (mRowIn S s k ∧ S 239 k = 0) ∧ mRefers S s (k.tdiv 64) (k.tmod 64) 1
noncomputable def mPs (s : Int) : Nat → IT → IT
  | 0, S => S
  | n + 1, S => if bI (mSpG (mPs s n S) s n) = 1 then up2 (mPs s n S) 239 n 1 else mPs s n S
theorem mPs_yes {s : Int} {n : Nat} {S : IT} (h : mSpG (mPs s n S) s n) : up2 (mPs s n S) 239 n 1 = mPs s (n + 1) S := (if_pos (bI1 h)).symm
theorem mPs_no {s : Int} {n : Nat} {S : IT} (h : ¬ mSpG (mPs s n S) s n) : mPs s n S = mPs s (n + 1) S := (if_neg (by rw [bI0 h]; decide)).symm
theorem mPs_fr {s : Int} {S : IT} (n : Nat) : ∀ (o : Nat) (k : Int), o ≠ 239 → mPs s n S o k = S o k := by
  induction n with
  | zero => intro o k h; rfl
  | succ n ih =>
    intro o k h
    by_cases g : mSpG (mPs s n S) s n
    · rw [← mPs_yes g, ← ih o k h]; exact if_neg (fun z => h z.1)
    · rw [← mPs_no g]; exact ih o k h
theorem mPs_up {s : Int} {S : IT} (n : Nat) : ∀ (k : Int), S 239 k ≠ 0 → mPs s n S 239 k ≠ 0 := by
  induction n with
  | zero => intro k h; exact h
  | succ n ih =>
    intro k h
    by_cases g : mSpG (mPs s n S) s n
    · rw [← mPs_yes g]; unfold up2; split
      · decide
      · exact ih k h
    · rw [← mPs_no g]; exact ih k h
/-- the places not gone -/
noncomputable def mLeft (S : IT) : Int := cntI (fun j => S 239 j = 0) 384
theorem cntI_le {g h : Int → Prop} : ∀ n : Nat, (∀ j : Nat, j < n → g j → h j) → cntI g n ≤ cntI h n := by
  intro n
  induction n with
  | zero => intro _; exact Int.le_refl _
  | succ n ih =>
    intro a
    have b := ih (fun j hj => a j (by omega))
    show cntI g n + bI (g n) ≤ cntI h n + bI (h n)
    have c := bI_01 (h n)
    by_cases z : g n
    · rw [bI1 z, bI1 (a n (by omega) z)]; omega
    · rw [bI0 z]; omega
theorem cntI_lt {g h : Int → Prop} : ∀ (n m : Nat), m < n → (∀ j : Nat, j < n → g j → h j) → ¬ g m → h m → cntI g n < cntI h n := by
  intro n
  induction n with
  | zero => intro m h; omega
  | succ n ih =>
    intro m hm a b c
    show cntI g n + bI (g n) < cntI h n + bI (h n)
    have b1 := bI_01 (h n)
    by_cases e : m = n
    · subst e
      rw [bI0 b, bI1 c]
      have := cntI_le (g := g) (h := h) m (fun j hj => a j (by omega))
      omega
    · have d := ih m (by omega) (fun j hj => a j (by omega)) b c
      by_cases z : g n
      · rw [bI1 z, bI1 (a n (by omega) z)]; omega
      · rw [bI0 z]; omega
theorem mPs_mono {s : Int} {S : IT} {m : Nat} : ∀ n, m ≤ n → ∀ k : Int, mPs s m S 239 k ≠ 0 → mPs s n S 239 k ≠ 0 := by
  intro n
  induction n with
  | zero => intro h k z; have : m = 0 := by omega
            subst this; exact z
  | succ n ih =>
    intro h k z
    by_cases e : m = n + 1
    · subst e; exact z
    · have y := ih (by omega) k z
      by_cases g : mSpG (mPs s n S) s n
      · rw [← mPs_yes g]; unfold up2; split
        · decide
        · exact y
      · rw [← mPs_no g]; exact y
theorem mLeft_lt {s : Int} {S : IT} {m : Nat} (hm : m < 384) (h : mSpG (mPs s m S) s m) : mLeft (mPs s 384 S) < mLeft S := by
  refine cntI_lt 384 m hm (fun j hj a => ?_) ?_ ?_
  · exact Classical.byContradiction (fun z => mPs_up 384 _ z a)
  · refine mPs_mono 384 (by omega : m + 1 ≤ 384) m ?_
    rw [← mPs_yes h]
    unfold up2
    rw [if_pos ⟨rfl, rfl⟩]; decide
  · exact Classical.byContradiction (fun z => mPs_up m _ z h.1.2)
/-- passes until nothing goes any more -/
noncomputable def mSpread (s : Int) : Nat → IT → IT
  | 0, S => S
  | n + 1, S => if bI (∃ j : Int, 0 ≤ j ∧ j < 384 ∧ mSpG (mPs s j.toNat S) s j) = 1 then mSpread s n (mPs s 384 S) else mPs s 384 S
theorem mSpread_go {s : Int} {n : Nat} {S : IT} (h : ∃ j : Int, 0 ≤ j ∧ j < 384 ∧ mSpG (mPs s j.toNat S) s j) : mSpread s (n + 1) S = mSpread s n (mPs s 384 S) := if_pos (bI1 h)
theorem mSpread_end {s : Int} {n : Nat} {S : IT} (h : ¬ ∃ j : Int, 0 ≤ j ∧ j < 384 ∧ mSpG (mPs s j.toNat S) s j) : mSpread s (n + 1) S = mPs s 384 S := if_neg (by rw [bI0 h]; decide)
theorem mSpread_fr {s : Int} (n : Nat) : ∀ {S : IT} (o : Nat) (k : Int), o ≠ 239 → mSpread s n S o k = S o k := by
  induction n with
  | zero => intro S o k h; rfl
  | succ n ih =>
    intro S o k h
    by_cases g : ∃ j : Int, 0 ≤ j ∧ j < 384 ∧ mSpG (mPs s j.toNat S) s j
    · rw [mSpread_go g, ih o k h]; exact mPs_fr _ o k h
    · rw [mSpread_end g]; exact mPs_fr _ o k h
theorem MB.f239 {S : IT} (h : MB I) (f : ∀ o k, o ≠ 239 → S o k = I o k) : MB S :=
  h.of (f 100 0 (by decide)) (f 100 8 (by decide)) (f 100 19 (by decide)) (fun k => f 201 k (by decide)) (fun k => f 202 k (by decide)) (fun k => f 206 k (by decide)) (fun k => f 211 k (by decide)) (fun k => by rw [f 214 k (by decide)]; exact h.row k) (fun k => f 223 k (by decide)) (fun k => by rw [f 236 k (by decide)]; exact h.who k)
/-- whether one of the first m places has gone -/
def mSpA (s : Int) (S : IT) (n : Int) : Prop := ∃ j : Int, 0 ≤ j ∧ j < n ∧ mSpG (mPs s j.toNat S) s j
theorem mSpA_0 {s : Int} {S : IT} : 0 = bI (mSpA s S 0) := b0I (by rintro ⟨j, a, b, -⟩; omega)
theorem mSpA_yes {s : Int} {S : IT} {m : Nat} (h : mSpG (mPs s m S) s m) : 1 = bI (mSpA s S ((m : Int) + 1)) := b1I ⟨m, by omega, by omega, h⟩
theorem mSpA_no {s g : Int} {S : IT} {m : Nat} (h : ¬ mSpG (mPs s m S) s m) (e : g = bI (mSpA s S m)) : g = bI (mSpA s S ((m : Int) + 1)) := by
  rw [e]
  refine bIc ⟨fun ⟨j, a, b, c⟩ => ⟨j, a, by omega, c⟩, fun ⟨j, a, b, c⟩ => ⟨j, a, ?_, c⟩⟩
  by_cases z : j = m
  · subst z; exact absurd c h
  · omega
theorem wd_pass {Q : PQ} {S : IT} {i t s f : Int} (hM : MW K P) (hb : MB S) (hs : 0 ≤ s ∧ s < 4) (hw : ∀ g : Int, g = bI (mSpA s S 384) → VW m_Model_wantsDelete false (rmv 4 100) Q K P J (mPs s 384 S) 0 0 114 [(0, vR (some 100)), (1, vI i), (2, vI t), (3, vI s), (4, vI f), (5, vI g)] []) : ∀ (n m : Nat) (g : Int), m + n = 384 → g = bI (mSpA s S m) → VW m_Model_wantsDelete false (rmv 4 100) Q K P J (mPs s m S) 0 0 125 [(0, vR (some 100)), (1, vI i), (2, vI t), (3, vI s), (4, vI f), (5, vI g), (6, vI (m : Int))] [] := by
  intro n
  induction n with
  | zero =>
    intro m g hm hg
    have em : m = 384 := by omega
    subst em
    refine VW.iload (pc' := 127) d_Model_wantsDelete_125 rfl rfl ?_
    refine VW.sipush (pc' := 130) d_Model_wantsDelete_127 rfl (by decide) ?_
    refine VW.icmp_ge (tgt := 214) (pc' := 133) d_Model_wantsDelete_130 rfl rfl (fun c130 => ?_) (fun c130 => ?_)
    · refine VW.goto (pc' := 114) d_Model_wantsDelete_214 rfl ?_
      refine VW.pick [0, 1, 2, 3, 4, 5] ?_
      exact hw g hg
    · exfalso; omega
  | succ n ih =>
    intro m g hm hg
    have d := dm64 (k := (m : Int)) (by omega) (by omega)
    have ih1 := ih (m + 1)
    have em : ((m + 1 : Nat) : Int) = (m : Int) + 1 := by omega
    rw [em] at ih1
    have fr := @mPs_fr s S m
    have hbm := hb.f239 fr
    clear ih hw
    have yes := fun (z : mSpG (mPs s m S) s m) => ih1 1 (by omega) (mSpA_yes z)
    have no := fun (z : ¬ mSpG (mPs s m S) s m) => ih1 g (by omega) (mSpA_no z hg)
    refine VW.iload (pc' := 127) d_Model_wantsDelete_125 rfl rfl ?_
    refine VW.sipush (pc' := 130) d_Model_wantsDelete_127 rfl (by decide) ?_
    refine VW.icmp_ge (tgt := 214) (pc' := 133) d_Model_wantsDelete_130 rfl rfl (fun c130 => ?_) (fun c130 => ?_)
    · exfalso; omega
    · refine VW.iload (pc' := 135) d_Model_wantsDelete_133 rfl rfl ?_
      refine VW.bipush (pc' := 137) d_Model_wantsDelete_135 rfl (by decide) ?_
      refine VW.irem (pc' := 138) d_Model_wantsDelete_137 rfl (by omega) (by omega) ?_
      refine VW.aload_n (pc' := 139) d_Model_wantsDelete_138 rfl rfl ?_
      refine VW.gP (ci := 11) (T := T11) (N := 94) (k := 14) (k' := 14) (pc' := 142) d_Model_wantsDelete_139 rfl lk_Model_46 in11 rfl rfl rfl rfl (hM.k rfl) (hM.p (r := some 214) 14 rfl rfl) ?_
      refine VW.bipush (pc' := 144) d_Model_wantsDelete_142 rfl (by decide) ?_
      refine VW.iload_n (pc' := 145) d_Model_wantsDelete_144 rfl rfl ?_
      refine VW.imul (pc' := 146) d_Model_wantsDelete_145 rfl (by omega) ?_
      refine VW.iload (pc' := 148) d_Model_wantsDelete_146 rfl rfl ?_
      refine VW.bipush (pc' := 150) d_Model_wantsDelete_148 rfl (by decide) ?_
      refine VW.idiv (pc' := 151) d_Model_wantsDelete_150 rfl (by omega) (by omega) ?_
      refine VW.iadd (pc' := 152) d_Model_wantsDelete_151 rfl (by omega) ?_
      refine VW.ild (pc' := 153) d_Model_wantsDelete_152 rfl (hM.k rfl) (by omega) (by omega) (rfl) ?_
      refine VW.icmp_ge (tgt := 170) (pc' := 156) d_Model_wantsDelete_153 rfl rfl (fun c153 => ?_) (fun c153 => ?_)
      · refine VW.iconst (pc' := 171) d_Model_wantsDelete_170 rfl (by decide) ?_
        refine VW.istore (pc' := 173) d_Model_wantsDelete_171 rfl rfl ?_
        refine VW.iload (pc' := 175) d_Model_wantsDelete_173 rfl rfl ?_
        refine VW.if_eq (tgt := 208) (pc' := 178) d_Model_wantsDelete_175 rfl rfl (fun _ => ?_) (fun c175 => absurd c175 (by decide))
        refine VW.nrm ?_
        first | have yy : mSpG (mPs s m S) s m := ⟨⟨c153, c163⟩, e194⟩ | have yy : ¬ mSpG (mPs s m S) s m := (fun z => by first | (have q := z.1.1; unfold mRowIn at q; omega) | exact c163 z.1.2 | exact e194 z.2)
        first | (rw [mPs_yes yy]; have nx := yes yy) | (rw [mPs_no yy]; have nx := no yy)
        clear yes no ih1
        refine VW.iinc (pc' := 211) d_Model_wantsDelete_208 rfl rfl rfl (by omega) ?_
        refine VW.goto (pc' := 125) d_Model_wantsDelete_211 rfl ?_
        refine VW.pick [0, 1, 2, 3, 4, 5, 6] ?_
        exact nx
      · refine VW.aload_n (pc' := 157) d_Model_wantsDelete_156 rfl rfl ?_
        refine VW.gP (ci := 11) (T := T11) (N := 94) (k := 39) (k' := 39) (pc' := 160) d_Model_wantsDelete_157 rfl lk_Model_114 in11 rfl rfl rfl rfl (hM.k rfl) (hM.p (r := some 239) 39 rfl rfl) ?_
        refine VW.iload (pc' := 162) d_Model_wantsDelete_160 rfl rfl ?_
        refine VW.zld (pc' := 163) d_Model_wantsDelete_162 rfl (hM.k rfl) (by omega) (by omega) (rfl) ?_
        refine VW.if_ne (tgt := 170) (pc' := 166) d_Model_wantsDelete_163 rfl rfl (fun c163 => ?_) (fun c163 => ?_)
        · try have e163 := bIn c163
          refine VW.iconst (pc' := 171) d_Model_wantsDelete_170 rfl (by decide) ?_
          refine VW.istore (pc' := 173) d_Model_wantsDelete_171 rfl rfl ?_
          refine VW.iload (pc' := 175) d_Model_wantsDelete_173 rfl rfl ?_
          refine VW.if_eq (tgt := 208) (pc' := 178) d_Model_wantsDelete_175 rfl rfl (fun _ => ?_) (fun c175 => absurd c175 (by decide))
          refine VW.nrm ?_
          first | have yy : mSpG (mPs s m S) s m := ⟨⟨c153, c163⟩, e194⟩ | have yy : ¬ mSpG (mPs s m S) s m := (fun z => by first | (have q := z.1.1; unfold mRowIn at q; omega) | exact c163 z.1.2 | exact e194 z.2)
          first | (rw [mPs_yes yy]; have nx := yes yy) | (rw [mPs_no yy]; have nx := no yy)
          clear yes no ih1
          refine VW.iinc (pc' := 211) d_Model_wantsDelete_208 rfl rfl rfl (by omega) ?_
          refine VW.goto (pc' := 125) d_Model_wantsDelete_211 rfl ?_
          refine VW.pick [0, 1, 2, 3, 4, 5, 6] ?_
          exact nx
        · try have e163 := bIe c163
          refine VW.iconst (pc' := 167) d_Model_wantsDelete_166 rfl (by decide) ?_
          refine VW.goto (pc' := 171) d_Model_wantsDelete_167 rfl ?_
          refine VW.istore (pc' := 173) d_Model_wantsDelete_171 rfl rfl ?_
          refine VW.iload (pc' := 175) d_Model_wantsDelete_173 rfl rfl ?_
          refine VW.if_eq (tgt := 208) (pc' := 178) d_Model_wantsDelete_175 rfl rfl (fun c175 => absurd c175 (by decide)) (fun _ => ?_)
          refine VW.aload_n (pc' := 179) d_Model_wantsDelete_178 rfl rfl ?_
          refine VW.iload_n (pc' := 180) d_Model_wantsDelete_179 rfl rfl ?_
          refine VW.iload (pc' := 182) d_Model_wantsDelete_180 rfl rfl ?_
          refine VW.bipush (pc' := 184) d_Model_wantsDelete_182 rfl (by decide) ?_
          refine VW.idiv (pc' := 185) d_Model_wantsDelete_184 rfl (by omega) (by omega) ?_
          refine VW.iload (pc' := 187) d_Model_wantsDelete_185 rfl rfl ?_
          refine VW.bipush (pc' := 189) d_Model_wantsDelete_187 rfl (by decide) ?_
          refine VW.irem (pc' := 190) d_Model_wantsDelete_189 rfl (by omega) (by omega) ?_
          refine VW.iconst (pc' := 191) d_Model_wantsDelete_190 rfl (by decide) ?_
          refine VW.cV (ci := 11) (T := T11) (N := 94) (pc' := 194) d_Model_wantsDelete_191 rfl mv_Model_refers lk_Model_331 rfl (hM.k rfl) rfl rfl rfl (Nat.le_refl _) (Nat.le_refl _) (sp_Model_refers hM hbm (by omega) (by omega) (by omega)) rfl rfl ?_
          refine VW.if_eq (tgt := 208) (pc' := 197) d_Model_wantsDelete_194 rfl rfl (fun c194 => ?_) (fun c194 => ?_)
          · try have e194 := bIe c194
            refine VW.nrm ?_
            first | have yy : mSpG (mPs s m S) s m := ⟨⟨c153, c163⟩, e194⟩ | have yy : ¬ mSpG (mPs s m S) s m := (fun z => by first | (have q := z.1.1; unfold mRowIn at q; omega) | exact c163 z.1.2 | exact e194 z.2)
            first | (rw [mPs_yes yy]; have nx := yes yy) | (rw [mPs_no yy]; have nx := no yy)
            clear yes no ih1
            refine VW.iinc (pc' := 211) d_Model_wantsDelete_208 rfl rfl rfl (by omega) ?_
            refine VW.goto (pc' := 125) d_Model_wantsDelete_211 rfl ?_
            refine VW.pick [0, 1, 2, 3, 4, 5, 6] ?_
            exact nx
          · try have e194 := bIn c194
            refine VW.aload_n (pc' := 198) d_Model_wantsDelete_197 rfl rfl ?_
            refine VW.gP (ci := 11) (T := T11) (N := 94) (k := 39) (k' := 39) (pc' := 201) d_Model_wantsDelete_198 rfl lk_Model_114 in11 rfl rfl rfl rfl (hM.k rfl) (hM.p (r := some 239) 39 rfl rfl) ?_
            refine VW.iload (pc' := 203) d_Model_wantsDelete_201 rfl rfl ?_
            refine VW.iconst (pc' := 204) d_Model_wantsDelete_203 rfl (by decide) ?_
            refine VW.zast (pc' := 205) d_Model_wantsDelete_204 rfl (hM.k rfl) (by omega) (by omega) (by omega) ?_
            refine VW.iconst (pc' := 206) d_Model_wantsDelete_205 rfl (by decide) ?_
            refine VW.istore (pc' := 208) d_Model_wantsDelete_206 rfl rfl ?_
            refine VW.nrm ?_
            first | have yy : mSpG (mPs s m S) s m := ⟨⟨c153, c163⟩, e194⟩ | have yy : ¬ mSpG (mPs s m S) s m := (fun z => by first | (have q := z.1.1; unfold mRowIn at q; omega) | exact c163 z.1.2 | exact e194 z.2)
            first | (rw [mPs_yes yy]; have nx := yes yy) | (rw [mPs_no yy]; have nx := no yy)
            clear yes no ih1
            refine VW.iinc (pc' := 211) d_Model_wantsDelete_208 rfl rfl rfl (by omega) ?_
            refine VW.goto (pc' := 125) d_Model_wantsDelete_211 rfl ?_
            refine VW.pick [0, 1, 2, 3, 4, 5, 6] ?_
            exact nx
theorem wd_spread {Q : PQ} {i t s f : Int} (hM : MW K P) (hs : 0 ≤ s ∧ s < 4) {F : IT} (hw : VW m_Model_wantsDelete false (rmv 4 100) Q K P J F 0 0 217 [(0, vR (some 100)), (1, vI i), (2, vI t), (3, vI s), (4, vI f), (5, vI 0)] []) : ∀ (n : Nat) (S : IT), MB S → mLeft S < n → mSpread s n S = F → VW m_Model_wantsDelete false (rmv 4 100) Q K P J S 0 0 114 [(0, vR (some 100)), (1, vI i), (2, vI t), (3, vI s), (4, vI f), (5, vI 1)] [] := by
  have exit : VW m_Model_wantsDelete false (rmv 4 100) Q K P J F 0 0 114 [(0, vR (some 100)), (1, vI i), (2, vI t), (3, vI s), (4, vI f), (5, vI 0)] [] := by
    refine VW.iload (pc' := 116) d_Model_wantsDelete_114 rfl rfl ?_
    refine VW.if_eq (tgt := 217) (pc' := 119) d_Model_wantsDelete_116 rfl rfl (fun _ => ?_) (fun c116 => absurd c116 (by decide))
    refine VW.nrm ?_
    exact hw
  intro n
  induction n with
  | zero =>
    intro S hb hl he
    have := (cntI_rg (fun j => S 239 j = 0) 384).1
    unfold mLeft at hl
    omega
  | succ n ih =>
    intro S hb hl he
    have body : VW m_Model_wantsDelete false (rmv 4 100) Q K P J S 0 0 125 [(0, vR (some 100)), (1, vI i), (2, vI t), (3, vI s), (4, vI f), (5, vI 0), (6, vI 0)] [] := by
      refine wd_pass hM hb hs (fun g1 hg1 => ?_) 384 0 0 rfl mSpA_0
      have fr := @mPs_fr s S 384
      by_cases h : ∃ j : Int, 0 ≤ j ∧ j < 384 ∧ mSpG (mPs s j.toNat S) s j
      · rw [mSpread_go h] at he
        have e1 : g1 = 1 := hg1.trans (bI1 h)
        rw [e1]
        refine ih _ (hb.f239 fr) ?_ he
        obtain ⟨j, a, b, c⟩ := h
        have e : ((j.toNat : Nat) : Int) = j := by omega
        have := mLeft_lt (s := s) (S := S) (m := j.toNat) (by omega) (by rw [e]; exact c)
        omega
      · rw [mSpread_end h] at he
        rw [he, hg1.trans (bI0 h)]
        exact exit
    refine VW.iload (pc' := 116) d_Model_wantsDelete_114 rfl rfl ?_
    refine VW.if_eq (tgt := 217) (pc' := 119) d_Model_wantsDelete_116 rfl rfl (fun c116 => absurd c116 (by decide)) (fun _ => ?_)
    refine VW.iconst (pc' := 120) d_Model_wantsDelete_119 rfl (by decide) ?_
    refine VW.istore (pc' := 122) d_Model_wantsDelete_120 rfl rfl ?_
    refine VW.iconst (pc' := 123) d_Model_wantsDelete_122 rfl (by decide) ?_
    refine VW.istore (pc' := 125) d_Model_wantsDelete_123 rfl rfl ?_
    refine VW.nrm ?_
    exact body
theorem mBroken_of {S : IT} {s t r c : Int} (h1 : ∀ k, S 206 k = I 206 k) (h2 : ∀ k, S 214 k = I 214 k) (h3 : ∀ k, S 215 k = I 215 k) (h4 : ∀ k, S 239 k = I 239 k) : mBroken S s t r c = mBroken I s t r c := by
  unfold mBroken
  rw [mfind_of h3 h2, h1, h3, h4]
theorem mRefers_of {S : IT} {s t r w : Int} (h1 : ∀ k, S 206 k = I 206 k) (h2 : ∀ k, S 214 k = I 214 k) (h3 : ∀ k, S 215 k = I 215 k) (h4 : ∀ k, S 239 k = I 239 k) (h5 : ∀ k, S 201 k = I 201 k) (h6 : ∀ k, S 207 k = I 207 k) : mRefers S s t r w = mRefers I s t r w := by
  unfold mRefers
  rw [h5]
  congr 1
  funext c
  rw [mBroken_of h1 h2 h3 h4, h6]
/-- one place: blank or not; if it goes, what refers to its table is read; if either, its row is wanted -/
noncomputable def mWd1 (i s k : Int) (S : IT) : IT :=
  if bI (mRowIn S s k) = 0 then S
  else if S 239 k = 0 then (if bI (mRefers S s (k.tdiv 64) (k.tmod 64) 2) = 0 then up2 S 240 k 0 else mwants (up2 S 240 k 1) (k.tdiv 64) (S 215 (4 * (64 * (6 * s + k.tdiv 64) + k.tmod 64) + 0)))
  else mwants (mReadsRefs S i (k.tdiv 64) 24) (k.tdiv 64) (S 215 (4 * (64 * (6 * s + k.tdiv 64) + k.tmod 64) + 0))
theorem mWd1_o {i s k : Int} {S : IT} (h : ¬ mRowIn S s k) : mWd1 i s k S = S := if_pos (bI0 h)
theorem mWd1_n {i s k : Int} {S : IT} (h : mRowIn S s k) (h2 : S 239 k = 0) (h3 : ¬ mRefers S s (k.tdiv 64) (k.tmod 64) 2) : mWd1 i s k S = up2 S 240 k 0 := (if_neg (by rw [bI1 h]; decide)).trans ((if_pos h2).trans (if_pos (bI0 h3)))
theorem mWd1_b {i s k : Int} {S : IT} (h : mRowIn S s k) (h2 : S 239 k = 0) (h3 : mRefers S s (k.tdiv 64) (k.tmod 64) 2) : mWd1 i s k S = mwants (up2 S 240 k 1) (k.tdiv 64) (S 215 (4 * (64 * (6 * s + k.tdiv 64) + k.tmod 64) + 0)) := (if_neg (by rw [bI1 h]; decide)).trans ((if_pos h2).trans (if_neg (by rw [bI1 h3]; decide)))
theorem mWd1_g {i s k : Int} {S : IT} (h : mRowIn S s k) (h2 : S 239 k ≠ 0) : mWd1 i s k S = mwants (mReadsRefs S i (k.tdiv 64) 24) (k.tdiv 64) (S 215 (4 * (64 * (6 * s + k.tdiv 64) + k.tmod 64) + 0)) := (if_neg (by rw [bI1 h]; decide)).trans (if_neg h2)
theorem mReadsRefs_fr {i t n : Int} (o : Nat) (k : Int) (h : o ≠ 236) : mReadsRefs I i t n o k = I o k := by
  unfold mReadsRefs
  exact if_neg (fun z => h z.1)
theorem mReadsRefs_236 {i t n : Int} (k : Int) : mReadsRefs I i t n 236 k = 1 ∨ mReadsRefs I i t n 236 k = I 236 k := by
  unfold mReadsRefs
  split
  · exact Or.inl rfl
  · exact Or.inr rfl
/-- the arrays that the last loop changes -/
def wdX (o : Nat) (k : Int) : Prop := o = 236 ∨ o = 240 ∨ o = 242 ∨ o = 243 ∨ (o = 100 ∧ k = 41)
theorem mWd1_fr {i s k : Int} {S : IT} (o : Nat) (q : Int) (h : ¬ wdX o q) : mWd1 i s k S o q = S o q := by
  have h1 : o ≠ 236 := fun z => h (Or.inl z)
  have h2 : o ≠ 240 := fun z => h (Or.inr (Or.inl z))
  have h3 : o ≠ 242 := fun z => h (Or.inr (Or.inr (Or.inl z)))
  have h4 : o ≠ 243 := fun z => h (Or.inr (Or.inr (Or.inr (Or.inl z))))
  have h5 : o ≠ 100 ∨ q ≠ 41 := Classical.byContradiction (fun z => h (Or.inr (Or.inr (Or.inr (Or.inr ⟨Classical.byContradiction (fun y => z (Or.inl y)), Classical.byContradiction (fun y => z (Or.inr y))⟩)))))
  have u : ∀ v : Int, up2 S 240 k v o q = S o q := fun v => if_neg (fun z => h2 z.1)
  by_cases a : mRowIn S s k
  · by_cases b : S 239 k = 0
    · by_cases c : mRefers S s (k.tdiv 64) (k.tmod 64) 2
      · rw [mWd1_b a b c, mwants_fr o q h3 h4 h5, u]
      · rw [mWd1_n a b c, u]
    · rw [mWd1_g a b, mwants_fr o q h3 h4 h5, mReadsRefs_fr o q h1]
  · rw [mWd1_o a]
theorem mwants_41 {t key : Int} : mwants I t key 100 41 = I 100 41 + 1 := by simp [mwants, up2]
theorem mWd1_41 {i s k : Int} {S : IT} : S 100 41 ≤ mWd1 i s k S 100 41 ∧ mWd1 i s k S 100 41 ≤ S 100 41 + 1 := by
  by_cases a : mRowIn S s k
  · by_cases b : S 239 k = 0
    · by_cases c : mRefers S s (k.tdiv 64) (k.tmod 64) 2
      · rw [mWd1_b a b c, mwants_41]; simp [up2]; omega
      · rw [mWd1_n a b c]; simp [up2]; omega
    · rw [mWd1_g a b, mwants_41, mReadsRefs_fr 100 41 (by decide)]; omega
  · rw [mWd1_o a]; omega
theorem mWd1_236 {i s k : Int} {S : IT} (q : Int) : mWd1 i s k S 236 q = 1 ∨ mWd1 i s k S 236 q = S 236 q := by
  by_cases a : mRowIn S s k
  · by_cases b : S 239 k = 0
    · by_cases c : mRefers S s (k.tdiv 64) (k.tmod 64) 2
      · rw [mWd1_b a b c, mwants_fr 236 q (by decide) (by decide) (Or.inl (by decide))]; exact Or.inr rfl
      · rw [mWd1_n a b c]; exact Or.inr rfl
    · rw [mWd1_g a b, mwants_fr 236 q (by decide) (by decide) (Or.inl (by decide))]; exact mReadsRefs_236 q
  · rw [mWd1_o a]; exact Or.inr rfl
noncomputable def mWd (i s : Int) : Nat → IT → IT
  | 0, S => S
  | n + 1, S => mWd1 i s n (mWd i s n S)
theorem mWd_fr {i s : Int} {S : IT} (n : Nat) : ∀ (o : Nat) (q : Int), ¬ wdX o q → mWd i s n S o q = S o q := by
  induction n with
  | zero => intro o q h; rfl
  | succ n ih => intro o q h; exact (mWd1_fr o q h).trans (ih o q h)
theorem mWd_41 {i s : Int} {S : IT} (n : Nat) : S 100 41 ≤ mWd i s n S 100 41 ∧ mWd i s n S 100 41 ≤ S 100 41 + n := by
  induction n with
  | zero => exact ⟨Int.le_refl _, by show S 100 41 ≤ S 100 41 + 0; omega⟩
  | succ n ih => have := @mWd1_41 i s n (mWd i s n S); show _ ≤ mWd1 i s n (mWd i s n S) 100 41 ∧ mWd1 i s n (mWd i s n S) 100 41 ≤ _; omega
theorem mWd_236 {i s : Int} {S : IT} (n : Nat) (q : Int) : mWd i s n S 236 q = 1 ∨ mWd i s n S 236 q = S 236 q := by
  induction n with
  | zero => exact Or.inr rfl
  | succ n ih => exact (@mWd1_236 i s n (mWd i s n S) q).elim Or.inl (fun z => ih.elim (fun y => Or.inl (z.trans y)) (fun y => Or.inr (z.trans y)))
theorem MB.fd {S : IT} (h : MB I) (f : ∀ o k, ¬ wdX o k → S o k = I o k) (g : ∀ k, S 236 k = 1 ∨ S 236 k = I 236 k) : MB S :=
  h.of (f 100 0 (by unfold wdX; omega)) (f 100 8 (by unfold wdX; omega)) (f 100 19 (by unfold wdX; omega)) (fun k => f 201 k (by unfold wdX; omega)) (fun k => f 202 k (by unfold wdX; omega)) (fun k => f 206 k (by unfold wdX; omega)) (fun k => f 211 k (by unfold wdX; omega)) (fun k => by rw [f 214 k (by unfold wdX; omega)]; exact h.row k) (fun k => f 223 k (by unfold wdX; omega)) (fun k => (g k).elim Or.inr (fun z => by rw [z]; exact h.who k))
/-- no row that stays refers to one that goes by RESTRICT -/
def mCanG (S : IT) (s k : Int) : Prop := mRowIn S s k → S 239 k = 0 → ¬ mRefers S s (k.tdiv 64) (k.tmod 64) 0
theorem mCanG_of {S : IT} {s k : Int} (f : ∀ o k, ¬ wdX o k → S o k = I o k) : mCanG S s k = mCanG I s k := by
  unfold mCanG mRowIn
  rw [f 239 k (by unfold wdX; omega), f 214 _ (by unfold wdX; omega), mRefers_of (fun k => f 206 k (by unfold wdX; omega)) (fun k => f 214 k (by unfold wdX; omega)) (fun k => f 215 k (by unfold wdX; omega)) (fun k => f 239 k (by unfold wdX; omega)) (fun k => f 201 k (by unfold wdX; omega)) (fun k => f 207 k (by unfold wdX; omega))]
noncomputable def mWdE (i s : Int) (S : IT) : IT := mSortN (mWd i s 384 S) (mWd i s 384 S 100 41 - 1).toNat
theorem wd_last {Q : PQ} {X : IT} {i t s f : Int} (hM : MW K P) (hb : MB X) (hs : 0 ≤ s ∧ s < 4) (hi : 0 ≤ i ∧ i < 60) (h41 : X 100 41 = 0) (hw : Q (.inl (some (vI (bI (∀ j, 0 ≤ j → j < 384 → mCanG X s j))))) K P J (mWdE i s X)) : ∀ (n m : Nat) (w : Int), m + n = 384 → andI (mCanG X s) 0 m w → VW m_Model_wantsDelete false (rmv 4 100) Q K P J (mWd i s m X) 0 0 223 [(0, vR (some 100)), (1, vI i), (2, vI t), (3, vI s), (4, vI f), (6, vI w), (7, vI (m : Int))] [] := by
  intro n
  induction n with
  | zero =>
    intro m w hm ha
    have em : m = 384 := by omega
    subst em
    have q := @mWd_41 i s X 384
    have e := ha.bI
    rw [show ((384 : Nat) : Int) = 384 from rfl] at e
    have h01 := ha.h01
    rw [← e] at hw
    refine VW.iload (pc' := 225) d_Model_wantsDelete_223 rfl rfl ?_
    refine VW.sipush (pc' := 228) d_Model_wantsDelete_225 rfl (by decide) ?_
    refine VW.icmp_ge (tgt := 415) (pc' := 231) d_Model_wantsDelete_228 rfl rfl (fun c228 => ?_) (fun c228 => ?_)
    · refine VW.aload_n (pc' := 416) d_Model_wantsDelete_415 rfl rfl ?_
      refine VW.cV (ci := 11) (T := T11) (N := 94) (pc' := 419) d_Model_wantsDelete_416 rfl mv_Model_sortsWrites lk_Model_337 rfl (hM.k rfl) rfl rfl rfl (Nat.le_refl _) (Nat.le_refl _) (sp_Model_sortsWrites hM (by omega)) rfl rfl ?_
      refine VW.iload (pc' := 421) d_Model_wantsDelete_419 rfl rfl ?_
      exact VW.iret d_Model_wantsDelete_421 rfl (narZ h01) (Nat.zero_le _) (Nat.zero_le _) hw
    · exfalso; omega
  | succ n ih =>
    intro m w hm ha
    have d := dm64 (k := (m : Int)) (by omega) (by omega)
    have ih1 := ih (m + 1)
    have em : ((m + 1 : Nat) : Int) = (m : Int) + 1 := by omega
    rw [em] at ih1
    have fr := @mWd_fr i s X m
    have q41 := @mWd_41 i s X m
    have hbS := hb.fd fr (mWd_236 m)
    have eC := mCanG_of (s := s) (k := (m : Int)) fr
    have body : ∀ (S : IT), MB S → 0 ≤ S 100 41 → S 100 41 ≤ m → mCanG S s m = mCanG X s m → (∀ w1, (andI (mCanG X s) 0 ((m : Int) + 1) w1) → VW m_Model_wantsDelete false (rmv 4 100) Q K P J (mWd1 i s m S) 0 0 223 [(0, vR (some 100)), (1, vI i), (2, vI t), (3, vI s), (4, vI f), (6, vI w1), (7, vI ((m : Int) + 1))] []) → VW m_Model_wantsDelete false (rmv 4 100) Q K P J S 0 0 223 [(0, vR (some 100)), (1, vI i), (2, vI t), (3, vI s), (4, vI f), (6, vI w), (7, vI (m : Int))] [] := by
      clear ih ih1 fr q41 hbS eC hw h41
      intro S hS a1 a2 eC goal
      have hS1 : ∀ v : Int, MB (up2 S 240 m v) := fun v => hS.fd (fun o k h => if_neg (fun z => h (Or.inr (Or.inl z.1)))) (fun k => Or.inr rfl)
      have r0 := hS.row (6 * s + (m : Int).tdiv 64)
      have tT : S 239 m ≠ 0 → mRowIn S s m → VW m_Model_wantsDelete false (rmv 4 100) Q K P J S 0 0 330 [(0, vR (some 100)), (1, vI i), (2, vI t), (3, vI s), (4, vI f), (6, vI w), (7, vI (m : Int)), (8, vI 1)] [] := by
        intro hg hr
        have nx := goal w (ha.same (Eq.mp eC (fun _ a => absurd a hg)))
        rw [mWd1_g hr hg] at nx
        clear goal
        refine VW.iload (pc' := 332) d_Model_wantsDelete_330 rfl rfl ?_
        refine VW.if_eq (tgt := 355) (pc' := 335) d_Model_wantsDelete_332 rfl rfl (fun c332 => absurd c332 (by decide)) (fun _ => ?_)
        refine VW.aload_n (pc' := 336) d_Model_wantsDelete_335 rfl rfl ?_
        refine VW.gP (ci := 11) (T := T11) (N := 94) (k := 39) (k' := 39) (pc' := 339) d_Model_wantsDelete_336 rfl lk_Model_114 in11 rfl rfl rfl rfl (hM.k rfl) (hM.p (r := some 239) 39 rfl rfl) ?_
        refine VW.iload (pc' := 341) d_Model_wantsDelete_339 rfl rfl ?_
        refine VW.zld (pc' := 342) d_Model_wantsDelete_341 rfl (hM.k rfl) (by omega) (by omega) (by first | exact mReadsRefs_fr _ _ (by decide) | rfl) ?_
        refine VW.if_eq (tgt := 355) (pc' := 345) d_Model_wantsDelete_342 rfl rfl (fun c342 => ?_) (fun c342 => ?_)
        case refine_1 => exact absurd c342 (hg)
        refine VW.aload_n (pc' := 346) d_Model_wantsDelete_345 rfl rfl ?_
        refine VW.iload_n (pc' := 347) d_Model_wantsDelete_346 rfl rfl ?_
        refine VW.iload (pc' := 349) d_Model_wantsDelete_347 rfl rfl ?_
        refine VW.bipush (pc' := 351) d_Model_wantsDelete_349 rfl (by decide) ?_
        refine VW.idiv (pc' := 352) d_Model_wantsDelete_351 rfl (by omega) (by omega) ?_
        refine VW.cV (ci := 11) (T := T11) (N := 94) (pc' := 355) d_Model_wantsDelete_352 rfl mv_Model_readsReferrers lk_Model_334 rfl (hM.k rfl) rfl rfl rfl (Nat.le_refl _) (Nat.le_refl _) (sp_Model_readsReferrers hM hi) rfl rfl ?_
        refine VW.iload (pc' := 357) d_Model_wantsDelete_355 rfl rfl ?_
        refine VW.if_eq (tgt := 409) (pc' := 360) d_Model_wantsDelete_357 rfl rfl (fun c357 => absurd c357 (by decide)) (fun _ => ?_)
        refine VW.aload_n (pc' := 361) d_Model_wantsDelete_360 rfl rfl ?_
        refine VW.gP (ci := 11) (T := T11) (N := 94) (k := 39) (k' := 39) (pc' := 364) d_Model_wantsDelete_361 rfl lk_Model_114 in11 rfl rfl rfl rfl (hM.k rfl) (hM.p (r := some 239) 39 rfl rfl) ?_
        refine VW.iload (pc' := 366) d_Model_wantsDelete_364 rfl rfl ?_
        refine VW.zld (pc' := 367) d_Model_wantsDelete_366 rfl (hM.k rfl) (by omega) (by omega) (by first | exact mReadsRefs_fr _ _ (by decide) | rfl) ?_
        refine VW.if_ne (tgt := 380) (pc' := 370) d_Model_wantsDelete_367 rfl rfl (fun c367 => ?_) (fun c367 => ?_)
        case refine_2 => exact absurd c367 (hg)
        refine VW.aload_n (pc' := 381) d_Model_wantsDelete_380 rfl rfl ?_
        refine VW.iload (pc' := 383) d_Model_wantsDelete_381 rfl rfl ?_
        refine VW.bipush (pc' := 385) d_Model_wantsDelete_383 rfl (by decide) ?_
        refine VW.idiv (pc' := 386) d_Model_wantsDelete_385 rfl (by omega) (by omega) ?_
        refine VW.aload_n (pc' := 387) d_Model_wantsDelete_386 rfl rfl ?_
        refine VW.gP (ci := 11) (T := T11) (N := 94) (k := 15) (k' := 15) (pc' := 390) d_Model_wantsDelete_387 rfl lk_Model_49 in11 rfl rfl rfl rfl (hM.k rfl) (hM.p (r := some 215) 15 rfl rfl) ?_
        refine VW.iload_n (pc' := 391) d_Model_wantsDelete_390 rfl rfl ?_
        refine VW.iload (pc' := 393) d_Model_wantsDelete_391 rfl rfl ?_
        refine VW.bipush (pc' := 395) d_Model_wantsDelete_393 rfl (by decide) ?_
        refine VW.idiv (pc' := 396) d_Model_wantsDelete_395 rfl (by omega) (by omega) ?_
        refine VW.iload (pc' := 398) d_Model_wantsDelete_396 rfl rfl ?_
        refine VW.bipush (pc' := 400) d_Model_wantsDelete_398 rfl (by decide) ?_
        refine VW.irem (pc' := 401) d_Model_wantsDelete_400 rfl (by omega) (by omega) ?_
        refine VW.iconst (pc' := 402) d_Model_wantsDelete_401 rfl (by decide) ?_
        refine VW.cS (pc' := 405) d_Model_wantsDelete_402 rfl ms_Model_cell lk_Model_273 rfl rfl rfl (Nat.le_refl _) (Nat.le_refl _) (sp_Model_cell (by omega) (by omega) (by omega) (by omega)) rfl rfl ?_
        refine VW.ild (pc' := 406) d_Model_wantsDelete_405 rfl (hM.k rfl) (by omega) (by omega) (by first | exact mReadsRefs_fr _ _ (by decide) | rfl) ?_
        refine VW.cV (ci := 11) (T := T11) (N := 94) (pc' := 409) d_Model_wantsDelete_406 rfl mv_Model_wants lk_Model_322 rfl (hM.k rfl) rfl rfl rfl (Nat.le_refl _) (Nat.le_refl _) (sp_Model_wants hM (by first | omega | (rw [mReadsRefs_fr 100 41 (by decide)]; omega) | (simp [up2]; omega))) rfl rfl ?_
        refine VW.iinc (pc' := 412) d_Model_wantsDelete_409 rfl rfl rfl (by omega) ?_
        refine VW.goto (pc' := 223) d_Model_wantsDelete_412 rfl ?_
        refine VW.pick [0, 1, 2, 3, 4, 6, 7] ?_
        exact nx
      have tU : ∀ (v w1 : Int), S 239 m = 0 → (v = 0 → VW m_Model_wantsDelete false (rmv 4 100) Q K P J (up2 S 240 m v) 0 0 223 [(0, vR (some 100)), (1, vI i), (2, vI t), (3, vI s), (4, vI f), (6, vI w1), (7, vI ((m : Int) + 1))] []) → (v ≠ 0 → VW m_Model_wantsDelete false (rmv 4 100) Q K P J (mwants (up2 S 240 m v) ((m : Int).tdiv 64) (S 215 (4 * (64 * (6 * s + (m : Int).tdiv 64) + (m : Int).tmod 64) + 0))) 0 0 223 [(0, vR (some 100)), (1, vI i), (2, vI t), (3, vI s), (4, vI f), (6, vI w1), (7, vI ((m : Int) + 1))] []) → VW m_Model_wantsDelete false (rmv 4 100) Q K P J (up2 S 240 m v) 0 0 330 [(0, vR (some 100)), (1, vI i), (2, vI t), (3, vI s), (4, vI f), (6, vI w1), (7, vI (m : Int)), (8, vI 1)] [] := by
        intro v w1 hg n0 n1
        clear goal
        refine VW.iload (pc' := 332) d_Model_wantsDelete_330 rfl rfl ?_
        refine VW.if_eq (tgt := 355) (pc' := 335) d_Model_wantsDelete_332 rfl rfl (fun c332 => absurd c332 (by decide)) (fun _ => ?_)
        refine VW.aload_n (pc' := 336) d_Model_wantsDelete_335 rfl rfl ?_
        refine VW.gP (ci := 11) (T := T11) (N := 94) (k := 39) (k' := 39) (pc' := 339) d_Model_wantsDelete_336 rfl lk_Model_114 in11 rfl rfl rfl rfl (hM.k rfl) (hM.p (r := some 239) 39 rfl rfl) ?_
        refine VW.iload (pc' := 341) d_Model_wantsDelete_339 rfl rfl ?_
        refine VW.zld (pc' := 342) d_Model_wantsDelete_341 rfl (hM.k rfl) (by omega) (by omega) (by first | exact up2_eq _ _ _ _ | exact up2_o _ _ _ _ (by decide) | rfl) ?_
        refine VW.if_eq (tgt := 355) (pc' := 345) d_Model_wantsDelete_342 rfl rfl (fun c342 => ?_) (fun c342 => ?_)
        case refine_2 => exact absurd c342 (fun z => z hg)
        refine VW.iload (pc' := 357) d_Model_wantsDelete_355 rfl rfl ?_
        refine VW.if_eq (tgt := 409) (pc' := 360) d_Model_wantsDelete_357 rfl rfl (fun c357 => absurd c357 (by decide)) (fun _ => ?_)
        refine VW.aload_n (pc' := 361) d_Model_wantsDelete_360 rfl rfl ?_
        refine VW.gP (ci := 11) (T := T11) (N := 94) (k := 39) (k' := 39) (pc' := 364) d_Model_wantsDelete_361 rfl lk_Model_114 in11 rfl rfl rfl rfl (hM.k rfl) (hM.p (r := some 239) 39 rfl rfl) ?_
        refine VW.iload (pc' := 366) d_Model_wantsDelete_364 rfl rfl ?_
        refine VW.zld (pc' := 367) d_Model_wantsDelete_366 rfl (hM.k rfl) (by omega) (by omega) (by first | exact up2_eq _ _ _ _ | exact up2_o _ _ _ _ (by decide) | rfl) ?_
        refine VW.if_ne (tgt := 380) (pc' := 370) d_Model_wantsDelete_367 rfl rfl (fun c367 => ?_) (fun c367 => ?_)
        case refine_1 => exact absurd c367 (fun z => z hg)
        refine VW.aload_n (pc' := 371) d_Model_wantsDelete_370 rfl rfl ?_
        refine VW.gP (ci := 11) (T := T11) (N := 94) (k := 40) (k' := 40) (pc' := 374) d_Model_wantsDelete_371 rfl lk_Model_117 in11 rfl rfl rfl rfl (hM.k rfl) (hM.p (r := some 240) 40 rfl rfl) ?_
        refine VW.iload (pc' := 376) d_Model_wantsDelete_374 rfl rfl ?_
        refine VW.zld (pc' := 377) d_Model_wantsDelete_376 rfl (hM.k rfl) (by omega) (by omega) (by first | exact up2_eq _ _ _ _ | exact up2_o _ _ _ _ (by decide) | rfl) ?_
        refine VW.if_eq (tgt := 409) (pc' := 380) d_Model_wantsDelete_377 rfl rfl (fun c377 => ?_) (fun c377 => ?_)
        · try have e377 := bIe c377
          refine VW.iinc (pc' := 412) d_Model_wantsDelete_409 rfl rfl rfl (by omega) ?_
          refine VW.goto (pc' := 223) d_Model_wantsDelete_412 rfl ?_
          refine VW.pick [0, 1, 2, 3, 4, 6, 7] ?_
          first | exact n0 c377 | exact n1 c377
        · try have e377 := bIn c377
          refine VW.aload_n (pc' := 381) d_Model_wantsDelete_380 rfl rfl ?_
          refine VW.iload (pc' := 383) d_Model_wantsDelete_381 rfl rfl ?_
          refine VW.bipush (pc' := 385) d_Model_wantsDelete_383 rfl (by decide) ?_
          refine VW.idiv (pc' := 386) d_Model_wantsDelete_385 rfl (by omega) (by omega) ?_
          refine VW.aload_n (pc' := 387) d_Model_wantsDelete_386 rfl rfl ?_
          refine VW.gP (ci := 11) (T := T11) (N := 94) (k := 15) (k' := 15) (pc' := 390) d_Model_wantsDelete_387 rfl lk_Model_49 in11 rfl rfl rfl rfl (hM.k rfl) (hM.p (r := some 215) 15 rfl rfl) ?_
          refine VW.iload_n (pc' := 391) d_Model_wantsDelete_390 rfl rfl ?_
          refine VW.iload (pc' := 393) d_Model_wantsDelete_391 rfl rfl ?_
          refine VW.bipush (pc' := 395) d_Model_wantsDelete_393 rfl (by decide) ?_
          refine VW.idiv (pc' := 396) d_Model_wantsDelete_395 rfl (by omega) (by omega) ?_
          refine VW.iload (pc' := 398) d_Model_wantsDelete_396 rfl rfl ?_
          refine VW.bipush (pc' := 400) d_Model_wantsDelete_398 rfl (by decide) ?_
          refine VW.irem (pc' := 401) d_Model_wantsDelete_400 rfl (by omega) (by omega) ?_
          refine VW.iconst (pc' := 402) d_Model_wantsDelete_401 rfl (by decide) ?_
          refine VW.cS (pc' := 405) d_Model_wantsDelete_402 rfl ms_Model_cell lk_Model_273 rfl rfl rfl (Nat.le_refl _) (Nat.le_refl _) (sp_Model_cell (by omega) (by omega) (by omega) (by omega)) rfl rfl ?_
          refine VW.ild (pc' := 406) d_Model_wantsDelete_405 rfl (hM.k rfl) (by omega) (by omega) (by first | exact up2_eq _ _ _ _ | exact up2_o _ _ _ _ (by decide) | rfl) ?_
          refine VW.cV (ci := 11) (T := T11) (N := 94) (pc' := 409) d_Model_wantsDelete_406 rfl mv_Model_wants lk_Model_322 rfl (hM.k rfl) rfl rfl rfl (Nat.le_refl _) (Nat.le_refl _) (sp_Model_wants hM (by first | omega | (rw [mReadsRefs_fr 100 41 (by decide)]; omega) | (simp [up2]; omega))) rfl rfl ?_
          refine VW.iinc (pc' := 412) d_Model_wantsDelete_409 rfl rfl rfl (by omega) ?_
          refine VW.goto (pc' := 223) d_Model_wantsDelete_412 rfl ?_
          refine VW.pick [0, 1, 2, 3, 4, 6, 7] ?_
          first | exact n0 c377 | exact n1 c377
      have tV : ∀ (w1 : Int), S 239 m = 0 → mRowIn S s m → (andI (mCanG X s) 0 ((m : Int) + 1) w1) → VW m_Model_wantsDelete false (rmv 4 100) Q K P J S 0 0 307 [(0, vR (some 100)), (1, vI i), (2, vI t), (3, vI s), (4, vI f), (6, vI w1), (7, vI (m : Int)), (8, vI 1)] [] := by
        intro w1 hg hr hw1
        have nx := goal w1 hw1
        have u0 := tU (bI (mRefers S s ((m : Int).tdiv 64) ((m : Int).tmod 64) 2)) w1 hg (fun z => by
          have z1 : ¬ mRefers S s ((m : Int).tdiv 64) ((m : Int).tmod 64) 2 := fun y => by rw [bI1 y] at z; exact absurd z (by decide)
          rw [mWd1_n hr hg z1] at nx
          rw [z]; exact nx) (fun z => by
          have z1 : mRefers S s ((m : Int).tdiv 64) ((m : Int).tmod 64) 2 := Classical.byContradiction (fun y => z (bI0 y))
          rw [mWd1_b hr hg z1] at nx
          rw [bI1 z1]; exact nx)
        clear goal nx
        refine VW.aload_n (pc' := 308) d_Model_wantsDelete_307 rfl rfl ?_
        refine VW.gP (ci := 11) (T := T11) (N := 94) (k := 40) (k' := 40) (pc' := 311) d_Model_wantsDelete_308 rfl lk_Model_117 in11 rfl rfl rfl rfl (hM.k rfl) (hM.p (r := some 240) 40 rfl rfl) ?_
        refine VW.iload (pc' := 313) d_Model_wantsDelete_311 rfl rfl ?_
        refine VW.aload_n (pc' := 314) d_Model_wantsDelete_313 rfl rfl ?_
        refine VW.iload_n (pc' := 315) d_Model_wantsDelete_314 rfl rfl ?_
        refine VW.iload (pc' := 317) d_Model_wantsDelete_315 rfl rfl ?_
        refine VW.bipush (pc' := 319) d_Model_wantsDelete_317 rfl (by decide) ?_
        refine VW.idiv (pc' := 320) d_Model_wantsDelete_319 rfl (by omega) (by omega) ?_
        refine VW.iload (pc' := 322) d_Model_wantsDelete_320 rfl rfl ?_
        refine VW.bipush (pc' := 324) d_Model_wantsDelete_322 rfl (by decide) ?_
        refine VW.irem (pc' := 325) d_Model_wantsDelete_324 rfl (by omega) (by omega) ?_
        refine VW.iconst (pc' := 326) d_Model_wantsDelete_325 rfl (by decide) ?_
        refine VW.cV (ci := 11) (T := T11) (N := 94) (pc' := 329) d_Model_wantsDelete_326 rfl mv_Model_refers lk_Model_331 rfl (hM.k rfl) rfl rfl rfl (Nat.le_refl _) (Nat.le_refl _) (sp_Model_refers hM hS (by omega) (by omega) (by omega)) rfl rfl ?_
        refine VW.zast (pc' := 330) d_Model_wantsDelete_329 rfl (hM.k rfl) (by omega) (by omega) (bI_01 _) ?_
        refine VW.nrm ?_
        exact u0
      have tO : ¬ mRowIn S s m → VW m_Model_wantsDelete false (rmv 4 100) Q K P J S 0 0 330 [(0, vR (some 100)), (1, vI i), (2, vI t), (3, vI s), (4, vI f), (6, vI w), (7, vI (m : Int)), (8, vI 0)] [] := by
        intro z
        have g1 := goal w (ha.same (Eq.mp eC (fun a => absurd a z)))
        rw [mWd1_o z] at g1
        clear goal
        refine VW.iload (pc' := 332) d_Model_wantsDelete_330 rfl rfl ?_
        refine VW.if_eq (tgt := 355) (pc' := 335) d_Model_wantsDelete_332 rfl rfl (fun _ => ?_) (fun c332 => absurd c332 (by decide))
        refine VW.iload (pc' := 357) d_Model_wantsDelete_355 rfl rfl ?_
        refine VW.if_eq (tgt := 409) (pc' := 360) d_Model_wantsDelete_357 rfl rfl (fun _ => ?_) (fun c357 => absurd c357 (by decide))
        refine VW.iinc (pc' := 412) d_Model_wantsDelete_409 rfl rfl rfl (by omega) ?_
        refine VW.goto (pc' := 223) d_Model_wantsDelete_412 rfl ?_
        refine VW.pick [0, 1, 2, 3, 4, 6, 7] ?_
        exact g1
      refine VW.iload (pc' := 225) d_Model_wantsDelete_223 rfl rfl ?_
      refine VW.sipush (pc' := 228) d_Model_wantsDelete_225 rfl (by decide) ?_
      refine VW.icmp_ge (tgt := 415) (pc' := 231) d_Model_wantsDelete_228 rfl rfl (fun c228 => ?_) (fun c228 => ?_)
      · exfalso; omega
      · refine VW.iload (pc' := 233) d_Model_wantsDelete_231 rfl rfl ?_
        refine VW.bipush (pc' := 235) d_Model_wantsDelete_233 rfl (by decide) ?_
        refine VW.irem (pc' := 236) d_Model_wantsDelete_235 rfl (by omega) (by omega) ?_
        refine VW.aload_n (pc' := 237) d_Model_wantsDelete_236 rfl rfl ?_
        refine VW.gP (ci := 11) (T := T11) (N := 94) (k := 14) (k' := 14) (pc' := 240) d_Model_wantsDelete_237 rfl lk_Model_46 in11 rfl rfl rfl rfl (hM.k rfl) (hM.p (r := some 214) 14 rfl rfl) ?_
        refine VW.bipush (pc' := 242) d_Model_wantsDelete_240 rfl (by decide) ?_
        refine VW.iload_n (pc' := 243) d_Model_wantsDelete_242 rfl rfl ?_
        refine VW.imul (pc' := 244) d_Model_wantsDelete_243 rfl (by omega) ?_
        refine VW.iload (pc' := 246) d_Model_wantsDelete_244 rfl rfl ?_
        refine VW.bipush (pc' := 248) d_Model_wantsDelete_246 rfl (by decide) ?_
        refine VW.idiv (pc' := 249) d_Model_wantsDelete_248 rfl (by omega) (by omega) ?_
        refine VW.iadd (pc' := 250) d_Model_wantsDelete_249 rfl (by omega) ?_
        refine VW.ild (pc' := 251) d_Model_wantsDelete_250 rfl (hM.k rfl) (by omega) (by omega) (rfl) ?_
        refine VW.icmp_ge (tgt := 258) (pc' := 254) d_Model_wantsDelete_251 rfl rfl (fun c251 => ?_) (fun c251 => ?_)
        · refine VW.iconst (pc' := 259) d_Model_wantsDelete_258 rfl (by decide) ?_
          refine VW.istore (pc' := 261) d_Model_wantsDelete_259 rfl rfl ?_
          refine VW.iload (pc' := 263) d_Model_wantsDelete_261 rfl rfl ?_
          refine VW.if_eq (tgt := 330) (pc' := 266) d_Model_wantsDelete_263 rfl rfl (fun _ => ?_) (fun c263 => absurd c263 (by decide))
          refine VW.nrm ?_
          first | exact tT c273 c251 | exact tO (by unfold mRowIn; omega)
        · refine VW.iconst (pc' := 255) d_Model_wantsDelete_254 rfl (by decide) ?_
          refine VW.goto (pc' := 259) d_Model_wantsDelete_255 rfl ?_
          refine VW.istore (pc' := 261) d_Model_wantsDelete_259 rfl rfl ?_
          refine VW.iload (pc' := 263) d_Model_wantsDelete_261 rfl rfl ?_
          refine VW.if_eq (tgt := 330) (pc' := 266) d_Model_wantsDelete_263 rfl rfl (fun c263 => absurd c263 (by decide)) (fun _ => ?_)
          refine VW.aload_n (pc' := 267) d_Model_wantsDelete_266 rfl rfl ?_
          refine VW.gP (ci := 11) (T := T11) (N := 94) (k := 39) (k' := 39) (pc' := 270) d_Model_wantsDelete_267 rfl lk_Model_114 in11 rfl rfl rfl rfl (hM.k rfl) (hM.p (r := some 239) 39 rfl rfl) ?_
          refine VW.iload (pc' := 272) d_Model_wantsDelete_270 rfl rfl ?_
          refine VW.zld (pc' := 273) d_Model_wantsDelete_272 rfl (hM.k rfl) (by omega) (by omega) (rfl) ?_
          refine VW.if_ne (tgt := 330) (pc' := 276) d_Model_wantsDelete_273 rfl rfl (fun c273 => ?_) (fun c273 => ?_)
          · try have e273 := bIn c273
            refine VW.nrm ?_
            first | exact tT c273 c251 | exact tO (by unfold mRowIn; omega)
          · try have e273 := bIe c273
            refine VW.iload (pc' := 278) d_Model_wantsDelete_276 rfl rfl ?_
            refine VW.if_eq (tgt := 304) (pc' := 281) d_Model_wantsDelete_278 rfl rfl (fun c278 => ?_) (fun c278 => ?_)
            · try have e278 := bIe c278
              refine VW.iconst (pc' := 305) d_Model_wantsDelete_304 rfl (by decide) ?_
              refine VW.istore (pc' := 307) d_Model_wantsDelete_305 rfl rfl ?_
              refine VW.nrm ?_
              first | exact tV _ c273 c251 (ha.keep c278) | exact tV _ c273 c251 (ha.yes c278 (Eq.mp eC (fun _ _ => e297))) | exact tV _ c273 c251 (andI.no (by omega) (fun y => Eq.mpr eC y c251 c273 e297))
            · try have e278 := bIn c278
              refine VW.aload_n (pc' := 282) d_Model_wantsDelete_281 rfl rfl ?_
              refine VW.iload_n (pc' := 283) d_Model_wantsDelete_282 rfl rfl ?_
              refine VW.iload (pc' := 285) d_Model_wantsDelete_283 rfl rfl ?_
              refine VW.bipush (pc' := 287) d_Model_wantsDelete_285 rfl (by decide) ?_
              refine VW.idiv (pc' := 288) d_Model_wantsDelete_287 rfl (by omega) (by omega) ?_
              refine VW.iload (pc' := 290) d_Model_wantsDelete_288 rfl rfl ?_
              refine VW.bipush (pc' := 292) d_Model_wantsDelete_290 rfl (by decide) ?_
              refine VW.irem (pc' := 293) d_Model_wantsDelete_292 rfl (by omega) (by omega) ?_
              refine VW.iconst (pc' := 294) d_Model_wantsDelete_293 rfl (by decide) ?_
              refine VW.cV (ci := 11) (T := T11) (N := 94) (pc' := 297) d_Model_wantsDelete_294 rfl mv_Model_refers lk_Model_331 rfl (hM.k rfl) rfl rfl rfl (Nat.le_refl _) (Nat.le_refl _) (sp_Model_refers hM hS (by omega) (by omega) (by omega)) rfl rfl ?_
              refine VW.if_ne (tgt := 304) (pc' := 300) d_Model_wantsDelete_297 rfl rfl (fun c297 => ?_) (fun c297 => ?_)
              · try have e297 := bIn c297
                refine VW.iconst (pc' := 305) d_Model_wantsDelete_304 rfl (by decide) ?_
                refine VW.istore (pc' := 307) d_Model_wantsDelete_305 rfl rfl ?_
                refine VW.nrm ?_
                first | exact tV _ c273 c251 (ha.keep c278) | exact tV _ c273 c251 (ha.yes c278 (Eq.mp eC (fun _ _ => e297))) | exact tV _ c273 c251 (andI.no (by omega) (fun y => Eq.mpr eC y c251 c273 e297))
              · try have e297 := bIe c297
                refine VW.iconst (pc' := 301) d_Model_wantsDelete_300 rfl (by decide) ?_
                refine VW.goto (pc' := 305) d_Model_wantsDelete_301 rfl ?_
                refine VW.istore (pc' := 307) d_Model_wantsDelete_305 rfl rfl ?_
                refine VW.nrm ?_
                first | exact tV _ c273 c251 (ha.keep c278) | exact tV _ c273 c251 (ha.yes c278 (Eq.mp eC (fun _ _ => e297))) | exact tV _ c273 c251 (andI.no (by omega) (fun y => Eq.mpr eC y c251 c273 e297))
    exact body (mWd i s m X) hbS (by omega) (by omega) eC (fun w1 a => ih1 w1 (by omega) a)
end
