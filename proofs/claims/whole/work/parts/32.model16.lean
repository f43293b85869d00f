section
variable {K : KT} {P : PT} {J I : IT}
/-- whom the first of the first n writes that is another's makes wait -/
noncomputable def mOth (W : IT) (i : Int) : Nat → Int
  | 0 => -1
  | n + 1 => if mOth W i n = -1 then mWriter W i (W 242 n) (W 243 n) (W 100 44).toNat else mOth W i n
theorem mOth_1 {W : IT} {i : Int} {n : Nat} (h : mOth W i n = -1) : mOth W i (n + 1) = mWriter W i (W 242 n) (W 243 n) (W 100 44).toNat := if_pos h
theorem mOth_0 {W : IT} {i : Int} {n : Nat} (h : mOth W i n ≠ -1) : mOth W i (n + 1) = mOth W i n := if_neg h
def mLateG (W : IT) (i j : Int) : Prop := W 224 i < W 217 (2001 * W 242 j + W 243 j + 1000)
def mLate (W : IT) (i : Int) : Prop := ∃ j, 0 ≤ j ∧ j < W 100 41 ∧ mLateG W i j
/-- following those that wait -/
noncomputable def mCh (W : IT) (i : Int) : Nat → Int → Int
  | 0, x => x
  | n + 1, x => if x = -1 ∨ x = i then x else mCh W i n (W 225 x)
theorem mCh_end {W : IT} {i x : Int} {n : Nat} (h : x = -1 ∨ x = i) : mCh W i n x = x := by
  cases n with
  | zero => rfl
  | succ n => exact if_pos h
theorem mCh_go {W : IT} {i x : Int} {n : Nat} (h : ¬ (x = -1 ∨ x = i)) : mCh W i (n + 1) x = mCh W i n (W 225 x) := if_neg h
theorem mWriter_rg {i t key : Int} : ∀ n : Nat, (∀ j : Int, 0 ≤ j → j < n → I 246 j = 0 → 0 ≤ I 247 j ∧ I 247 j < 60) → mWriter I i t key n = -1 ∨ (0 ≤ mWriter I i t key n ∧ mWriter I i t key n < 60) := by
  intro n
  induction n with
  | zero => intro _; exact Or.inl rfl
  | succ n ih =>
    intro h
    by_cases z : mWrOf I i t key n
    · rw [mWriter_1 z]; exact Or.inr (h n (by omega) (by omega) z.1)
    · rw [mWriter_0 z]; exact ih (fun j a b => h j a (by omega))
theorem mOth_rg {W : IT} {i : Int} (h : ∀ j : Int, 0 ≤ j → j < W 100 44 → W 246 j = 0 → 0 ≤ W 247 j ∧ W 247 j < 60) : ∀ n : Nat, mOth W i n = -1 ∨ (0 ≤ mOth W i n ∧ mOth W i n < 60) := by
  intro n
  induction n with
  | zero => exact Or.inl rfl
  | succ n ih =>
    by_cases z : mOth W i n = -1
    · rw [mOth_1 z]; exact mWriter_rg _ (fun j a b => h j a (by omega))
    · rw [mOth_0 z]; exact ih
/-- what becomes of a write that is not refused -/
noncomputable def mTryI (W : IT) (i : Int) : IT :=
  if mOth W i (W 100 41).toNat = -1 then (if bI (mLate W i) = 1 then mAborts W i else mDoes W i)
  else if mCh W i 60 (mOth W i (W 100 41).toNat) = i then mAborts W i
  else up2 (up2 W 221 i 1) 225 i (mOth W i (W 100 41).toNat)
noncomputable def mTryV (W : IT) (i : Int) : Int :=
  if mOth W i (W 100 41).toNat = -1 then (if bI (mLate W i) = 1 then 3 else 0)
  else if mCh W i 60 (mOth W i (W 100 41).toNat) = i then 4 else 1
theorem mTry_late {W : IT} {i : Int} (h : mOth W i (W 100 41).toNat = -1) (h2 : mLate W i) : mTryI W i = mAborts W i ∧ mTryV W i = 3 := ⟨(if_pos h).trans (if_pos (bI1 h2)), (if_pos h).trans (if_pos (bI1 h2))⟩
theorem mTry_done {W : IT} {i : Int} (h : mOth W i (W 100 41).toNat = -1) (h2 : ¬ mLate W i) : mTryI W i = mDoes W i ∧ mTryV W i = 0 := ⟨(if_pos h).trans (if_neg (by rw [bI0 h2]; decide)), (if_pos h).trans (if_neg (by rw [bI0 h2]; decide))⟩
theorem mTry_vict {W : IT} {i : Int} (h : mOth W i (W 100 41).toNat ≠ -1) (h2 : mCh W i 60 (mOth W i (W 100 41).toNat) = i) : mTryI W i = mAborts W i ∧ mTryV W i = 4 := ⟨(if_neg h).trans (if_pos h2), (if_neg h).trans (if_pos h2)⟩
theorem mTry_wait {W : IT} {i : Int} (h : mOth W i (W 100 41).toNat ≠ -1) (h2 : mCh W i 60 (mOth W i (W 100 41).toNat) ≠ i) : mTryI W i = up2 (up2 W 221 i 1) 225 i (mOth W i (W 100 41).toNat) ∧ mTryV W i = 1 := ⟨(if_neg h).trans (if_neg h2), (if_neg h).trans (if_neg h2)⟩

/-- what an attempt needs of the state in which its writes are known -/
def TrOK (W : IT) (i : Int) : Prop := (0 ≤ W 100 41 ∧ W 100 41 ≤ 384) ∧ (∀ j : Int, 0 ≤ j → j < W 100 41 → (0 ≤ W 242 j ∧ W 242 j < 6) ∧ (-1000 ≤ W 243 j ∧ W 243 j ≤ 1000)) ∧ (0 ≤ W 100 44 ∧ W 100 44 ≤ 16384) ∧ (∀ j : Int, 0 ≤ j → j < W 100 44 → W 246 j = 0 → 0 ≤ W 247 j ∧ W 247 j < 60) ∧ (∀ x : Int, 0 ≤ x → x < 60 → W 225 x = -1 ∨ (0 ≤ W 225 x ∧ W 225 x < 60)) ∧ (mCh W i 60 (mOth W i (W 100 41).toNat) = -1 ∨ mCh W i 60 (mOth W i (W 100 41).toNat) = i) ∧ ((mAb i (W 100 44).toNat W 0).1 100 44 < 16384) ∧ (0 ≤ W 228 i ∧ W 228 i < 6) ∧ (W 100 44 + W 100 41 ≤ 16384) ∧ (W 227 i = 0 → W 214 (6 * W 223 i + W 228 i) < 8) ∧ (W 227 i = 1 → mfind W (W 223 i) (W 228 i) (W 229 i) ≠ -1 ∧ 0 ≤ W 230 i ∧ W 230 i < 4) ∧ (W 227 i ≠ 0 → W 227 i ≠ 1 → mGoneIn W (W 223 i) 384)
theorem TrOK.h41 {W : IT} {i : Int} (h : TrOK W i) : 0 ≤ W 100 41 ∧ W 100 41 ≤ 384 := h.1
theorem TrOK.wr {W : IT} {i : Int} (h : TrOK W i) : ∀ j : Int, 0 ≤ j → j < W 100 41 → (0 ≤ W 242 j ∧ W 242 j < 6) ∧ (-1000 ≤ W 243 j ∧ W 243 j ≤ 1000) := h.2.1
theorem TrOK.h44 {W : IT} {i : Int} (h : TrOK W i) : 0 ≤ W 100 44 ∧ W 100 44 ≤ 16384 := h.2.2.1
theorem TrOK.rec {W : IT} {i : Int} (h : TrOK W i) : ∀ j : Int, 0 ≤ j → j < W 100 44 → W 246 j = 0 → 0 ≤ W 247 j ∧ W 247 j < 60 := h.2.2.2.1
theorem TrOK.wf {W : IT} {i : Int} (h : TrOK W i) : ∀ x : Int, 0 ≤ x → x < 60 → W 225 x = -1 ∨ (0 ≤ W 225 x ∧ W 225 x < 60) := h.2.2.2.2.1
theorem TrOK.ch {W : IT} {i : Int} (h : TrOK W i) : mCh W i 60 (mOth W i (W 100 41).toNat) = -1 ∨ mCh W i 60 (mOth W i (W 100 41).toNat) = i := h.2.2.2.2.2.1
theorem TrOK.ab {W : IT} {i : Int} (h : TrOK W i) : (mAb i (W 100 44).toNat W 0).1 100 44 < 16384 := h.2.2.2.2.2.2.1
theorem TrOK.ht {W : IT} {i : Int} (h : TrOK W i) : 0 ≤ W 228 i ∧ W 228 i < 6 := h.2.2.2.2.2.2.2.1
theorem TrOK.dn {W : IT} {i : Int} (h : TrOK W i) : W 100 44 + W 100 41 ≤ 16384 := h.2.2.2.2.2.2.2.2.1
theorem TrOK.hin {W : IT} {i : Int} (h : TrOK W i) : W 227 i = 0 → W 214 (6 * W 223 i + W 228 i) < 8 := h.2.2.2.2.2.2.2.2.2.1
theorem TrOK.hup {W : IT} {i : Int} (h : TrOK W i) : W 227 i = 1 → mfind W (W 223 i) (W 228 i) (W 229 i) ≠ -1 ∧ 0 ≤ W 230 i ∧ W 230 i < 4 := h.2.2.2.2.2.2.2.2.2.2.1
theorem TrOK.hde {W : IT} {i : Int} (h : TrOK W i) : W 227 i ≠ 0 → W 227 i ≠ 1 → mGoneIn W (W 223 i) 384 := h.2.2.2.2.2.2.2.2.2.2.2
theorem ex_pair {K : KT} {P : PT} {J I I' : IT} {v v' : Int} (h : I = I' ∧ v = v') : ex K P J I (.inl (some (vI v))) (.inl (some (vI v'))) K P J I' := by
  rw [h.1, h.2]; exact ex_rf
theorem tr_rest {W : IT} {i z : Int} (hM : MW K P) (hb : MB W) (hi : 0 ≤ i ∧ i < 60) (hT : TrOK W i) : VW m_Model_tries false (rmv 5 128) (ex K P J (mTryI W i) (.inl (some (vI (mTryV W i))))) K P J W 0 0 52 [(0, vR (some 100)), (1, vI i), (2, vI z)] [] := by
  have p0 := hb.pla i
  have a1 := hT.h41
  have a2 := hT.h44
  have eN : ((W 100 41).toNat : Int) = W 100 41 := by omega
  have chase : ∀ (n : Nat) (x late o w0 : Int), o ≠ -1 → o = mOth W i (W 100 41).toNat → (x = -1 ∨ (0 ≤ x ∧ x < 60)) → mCh W i n x = mCh W i 60 o → VW m_Model_tries false (rmv 5 128) (ex K P J (mTryI W i) (.inl (some (vI (mTryV W i))))) K P J W 0 0 161 [(0, vR (some 100)), (1, vI i), (2, vI z), (3, vI o), (4, vI late), (5, vI x)] [] := by
    intro n
    induction n with
    | zero =>
      intro x late o w0 h1 h2 h3 h4
      have c := hT.ch
      rw [← h2, ← h4] at c
      have c' : x = -1 ∨ x = i := c
      have h4' : x = mCh W i 60 o := h4
      rw [h2] at h4' h1
      refine VW.iload (pc' := 163) d_Model_tries_161 rfl rfl ?_
      refine VW.iconst (pc' := 164) d_Model_tries_163 rfl (by decide) ?_
      refine VW.icmp_eq (tgt := 185) (pc' := 167) d_Model_tries_164 rfl rfl (fun c164 => ?_) (fun c164 => ?_)
      · refine VW.iload (pc' := 187) d_Model_tries_185 rfl rfl ?_
        refine VW.iload_n (pc' := 188) d_Model_tries_187 rfl rfl ?_
        refine VW.icmp_ne (tgt := 199) (pc' := 191) d_Model_tries_188 rfl rfl (fun c188 => ?_) (fun c188 => ?_)
        · refine VW.aload_n (pc' := 200) d_Model_tries_199 rfl rfl ?_
          refine VW.gP (ci := 11) (T := T11) (N := 94) (k := 21) (k' := 21) (pc' := 203) d_Model_tries_200 rfl lk_Model_61 in11 rfl rfl rfl rfl (hM.k rfl) (hM.p (r := some 221) 21 rfl rfl) ?_
          refine VW.iload_n (pc' := 204) d_Model_tries_203 rfl rfl ?_
          refine VW.iconst (pc' := 205) d_Model_tries_204 rfl (by decide) ?_
          refine VW.iast (pc' := 206) d_Model_tries_205 rfl (hM.k rfl) (by omega) (by omega) ?_
          refine VW.aload_n (pc' := 207) d_Model_tries_206 rfl rfl ?_
          refine VW.gP (ci := 11) (T := T11) (N := 94) (k := 25) (k' := 25) (pc' := 210) d_Model_tries_207 rfl lk_Model_73 in11 rfl rfl rfl rfl (hM.k rfl) (hM.p (r := some 225) 25 rfl rfl) ?_
          refine VW.iload_n (pc' := 211) d_Model_tries_210 rfl rfl ?_
          refine VW.iload_n (pc' := 212) d_Model_tries_211 rfl rfl ?_
          refine VW.iast (pc' := 213) d_Model_tries_212 rfl (hM.k rfl) (by omega) (by omega) ?_
          refine VW.iconst (pc' := 214) d_Model_tries_213 rfl (by decide) ?_
          exact VW.iret d_Model_tries_214 rfl rfl (Nat.zero_le _) (Nat.zero_le _) (by first | exact ex_pair (mTry_vict h1 (h4'.symm.trans c188)) | exact ex_pair (h2 ▸ mTry_wait h1 (fun y => c188 (h4'.trans y))))
        · refine VW.aload_n (pc' := 192) d_Model_tries_191 rfl rfl ?_
          refine VW.iload_n (pc' := 193) d_Model_tries_192 rfl rfl ?_
          refine VW.cV (ci := 11) (T := T11) (N := 94) (pc' := 196) d_Model_tries_193 rfl mv_Model_aborts lk_Model_359 rfl (hM.k rfl) rfl rfl rfl (Nat.le_refl _) (Nat.le_refl _) (sp_Model_aborts hM hi p0 a2.1 hT.ab) rfl rfl ?_
          refine VW.pop (pc' := 197) d_Model_tries_196 rfl rfl ?_
          refine VW.iconst (pc' := 198) d_Model_tries_197 rfl (by decide) ?_
          exact VW.iret d_Model_tries_198 rfl rfl (Nat.zero_le _) (Nat.zero_le _) (by first | exact ex_pair (mTry_vict h1 (h4'.symm.trans c188)) | exact ex_pair (h2 ▸ mTry_wait h1 (fun y => c188 (h4'.trans y))))
      · refine VW.iload (pc' := 169) d_Model_tries_167 rfl rfl ?_
        refine VW.iload_n (pc' := 170) d_Model_tries_169 rfl rfl ?_
        refine VW.icmp_eq (tgt := 185) (pc' := 173) d_Model_tries_170 rfl rfl (fun c170 => ?_) (fun c170 => ?_)
        · refine VW.iload (pc' := 187) d_Model_tries_185 rfl rfl ?_
          refine VW.iload_n (pc' := 188) d_Model_tries_187 rfl rfl ?_
          refine VW.icmp_ne (tgt := 199) (pc' := 191) d_Model_tries_188 rfl rfl (fun c188 => ?_) (fun c188 => ?_)
          · refine VW.aload_n (pc' := 200) d_Model_tries_199 rfl rfl ?_
            refine VW.gP (ci := 11) (T := T11) (N := 94) (k := 21) (k' := 21) (pc' := 203) d_Model_tries_200 rfl lk_Model_61 in11 rfl rfl rfl rfl (hM.k rfl) (hM.p (r := some 221) 21 rfl rfl) ?_
            refine VW.iload_n (pc' := 204) d_Model_tries_203 rfl rfl ?_
            refine VW.iconst (pc' := 205) d_Model_tries_204 rfl (by decide) ?_
            refine VW.iast (pc' := 206) d_Model_tries_205 rfl (hM.k rfl) (by omega) (by omega) ?_
            refine VW.aload_n (pc' := 207) d_Model_tries_206 rfl rfl ?_
            refine VW.gP (ci := 11) (T := T11) (N := 94) (k := 25) (k' := 25) (pc' := 210) d_Model_tries_207 rfl lk_Model_73 in11 rfl rfl rfl rfl (hM.k rfl) (hM.p (r := some 225) 25 rfl rfl) ?_
            refine VW.iload_n (pc' := 211) d_Model_tries_210 rfl rfl ?_
            refine VW.iload_n (pc' := 212) d_Model_tries_211 rfl rfl ?_
            refine VW.iast (pc' := 213) d_Model_tries_212 rfl (hM.k rfl) (by omega) (by omega) ?_
            refine VW.iconst (pc' := 214) d_Model_tries_213 rfl (by decide) ?_
            exact VW.iret d_Model_tries_214 rfl rfl (Nat.zero_le _) (Nat.zero_le _) (by first | exact ex_pair (mTry_vict h1 (h4'.symm.trans c188)) | exact ex_pair (h2 ▸ mTry_wait h1 (fun y => c188 (h4'.trans y))))
          · refine VW.aload_n (pc' := 192) d_Model_tries_191 rfl rfl ?_
            refine VW.iload_n (pc' := 193) d_Model_tries_192 rfl rfl ?_
            refine VW.cV (ci := 11) (T := T11) (N := 94) (pc' := 196) d_Model_tries_193 rfl mv_Model_aborts lk_Model_359 rfl (hM.k rfl) rfl rfl rfl (Nat.le_refl _) (Nat.le_refl _) (sp_Model_aborts hM hi p0 a2.1 hT.ab) rfl rfl ?_
            refine VW.pop (pc' := 197) d_Model_tries_196 rfl rfl ?_
            refine VW.iconst (pc' := 198) d_Model_tries_197 rfl (by decide) ?_
            exact VW.iret d_Model_tries_198 rfl rfl (Nat.zero_le _) (Nat.zero_le _) (by first | exact ex_pair (mTry_vict h1 (h4'.symm.trans c188)) | exact ex_pair (h2 ▸ mTry_wait h1 (fun y => c188 (h4'.trans y))))
        · exfalso; omega
    | succ n ih =>
      intro x late o w0 h1 h2 h3 h4
      by_cases c : x = -1 ∨ x = i
      · have h4' : x = mCh W i 60 o := (mCh_end c).symm.trans h4
        rw [h2] at h4' h1
        refine VW.iload (pc' := 163) d_Model_tries_161 rfl rfl ?_
        refine VW.iconst (pc' := 164) d_Model_tries_163 rfl (by decide) ?_
        refine VW.icmp_eq (tgt := 185) (pc' := 167) d_Model_tries_164 rfl rfl (fun c164 => ?_) (fun c164 => ?_)
        · refine VW.iload (pc' := 187) d_Model_tries_185 rfl rfl ?_
          refine VW.iload_n (pc' := 188) d_Model_tries_187 rfl rfl ?_
          refine VW.icmp_ne (tgt := 199) (pc' := 191) d_Model_tries_188 rfl rfl (fun c188 => ?_) (fun c188 => ?_)
          · refine VW.aload_n (pc' := 200) d_Model_tries_199 rfl rfl ?_
            refine VW.gP (ci := 11) (T := T11) (N := 94) (k := 21) (k' := 21) (pc' := 203) d_Model_tries_200 rfl lk_Model_61 in11 rfl rfl rfl rfl (hM.k rfl) (hM.p (r := some 221) 21 rfl rfl) ?_
            refine VW.iload_n (pc' := 204) d_Model_tries_203 rfl rfl ?_
            refine VW.iconst (pc' := 205) d_Model_tries_204 rfl (by decide) ?_
            refine VW.iast (pc' := 206) d_Model_tries_205 rfl (hM.k rfl) (by omega) (by omega) ?_
            refine VW.aload_n (pc' := 207) d_Model_tries_206 rfl rfl ?_
            refine VW.gP (ci := 11) (T := T11) (N := 94) (k := 25) (k' := 25) (pc' := 210) d_Model_tries_207 rfl lk_Model_73 in11 rfl rfl rfl rfl (hM.k rfl) (hM.p (r := some 225) 25 rfl rfl) ?_
            refine VW.iload_n (pc' := 211) d_Model_tries_210 rfl rfl ?_
            refine VW.iload_n (pc' := 212) d_Model_tries_211 rfl rfl ?_
            refine VW.iast (pc' := 213) d_Model_tries_212 rfl (hM.k rfl) (by omega) (by omega) ?_
            refine VW.iconst (pc' := 214) d_Model_tries_213 rfl (by decide) ?_
            exact VW.iret d_Model_tries_214 rfl rfl (Nat.zero_le _) (Nat.zero_le _) (by first | exact ex_pair (mTry_vict h1 (h4'.symm.trans c188)) | exact ex_pair (h2 ▸ mTry_wait h1 (fun y => c188 (h4'.trans y))))
          · refine VW.aload_n (pc' := 192) d_Model_tries_191 rfl rfl ?_
            refine VW.iload_n (pc' := 193) d_Model_tries_192 rfl rfl ?_
            refine VW.cV (ci := 11) (T := T11) (N := 94) (pc' := 196) d_Model_tries_193 rfl mv_Model_aborts lk_Model_359 rfl (hM.k rfl) rfl rfl rfl (Nat.le_refl _) (Nat.le_refl _) (sp_Model_aborts hM hi p0 a2.1 hT.ab) rfl rfl ?_
            refine VW.pop (pc' := 197) d_Model_tries_196 rfl rfl ?_
            refine VW.iconst (pc' := 198) d_Model_tries_197 rfl (by decide) ?_
            exact VW.iret d_Model_tries_198 rfl rfl (Nat.zero_le _) (Nat.zero_le _) (by first | exact ex_pair (mTry_vict h1 (h4'.symm.trans c188)) | exact ex_pair (h2 ▸ mTry_wait h1 (fun y => c188 (h4'.trans y))))
        · refine VW.iload (pc' := 169) d_Model_tries_167 rfl rfl ?_
          refine VW.iload_n (pc' := 170) d_Model_tries_169 rfl rfl ?_
          refine VW.icmp_eq (tgt := 185) (pc' := 173) d_Model_tries_170 rfl rfl (fun c170 => ?_) (fun c170 => ?_)
          · refine VW.iload (pc' := 187) d_Model_tries_185 rfl rfl ?_
            refine VW.iload_n (pc' := 188) d_Model_tries_187 rfl rfl ?_
            refine VW.icmp_ne (tgt := 199) (pc' := 191) d_Model_tries_188 rfl rfl (fun c188 => ?_) (fun c188 => ?_)
            · refine VW.aload_n (pc' := 200) d_Model_tries_199 rfl rfl ?_
              refine VW.gP (ci := 11) (T := T11) (N := 94) (k := 21) (k' := 21) (pc' := 203) d_Model_tries_200 rfl lk_Model_61 in11 rfl rfl rfl rfl (hM.k rfl) (hM.p (r := some 221) 21 rfl rfl) ?_
              refine VW.iload_n (pc' := 204) d_Model_tries_203 rfl rfl ?_
              refine VW.iconst (pc' := 205) d_Model_tries_204 rfl (by decide) ?_
              refine VW.iast (pc' := 206) d_Model_tries_205 rfl (hM.k rfl) (by omega) (by omega) ?_
              refine VW.aload_n (pc' := 207) d_Model_tries_206 rfl rfl ?_
              refine VW.gP (ci := 11) (T := T11) (N := 94) (k := 25) (k' := 25) (pc' := 210) d_Model_tries_207 rfl lk_Model_73 in11 rfl rfl rfl rfl (hM.k rfl) (hM.p (r := some 225) 25 rfl rfl) ?_
              refine VW.iload_n (pc' := 211) d_Model_tries_210 rfl rfl ?_
              refine VW.iload_n (pc' := 212) d_Model_tries_211 rfl rfl ?_
              refine VW.iast (pc' := 213) d_Model_tries_212 rfl (hM.k rfl) (by omega) (by omega) ?_
              refine VW.iconst (pc' := 214) d_Model_tries_213 rfl (by decide) ?_
              exact VW.iret d_Model_tries_214 rfl rfl (Nat.zero_le _) (Nat.zero_le _) (by first | exact ex_pair (mTry_vict h1 (h4'.symm.trans c188)) | exact ex_pair (h2 ▸ mTry_wait h1 (fun y => c188 (h4'.trans y))))
            · refine VW.aload_n (pc' := 192) d_Model_tries_191 rfl rfl ?_
              refine VW.iload_n (pc' := 193) d_Model_tries_192 rfl rfl ?_
              refine VW.cV (ci := 11) (T := T11) (N := 94) (pc' := 196) d_Model_tries_193 rfl mv_Model_aborts lk_Model_359 rfl (hM.k rfl) rfl rfl rfl (Nat.le_refl _) (Nat.le_refl _) (sp_Model_aborts hM hi p0 a2.1 hT.ab) rfl rfl ?_
              refine VW.pop (pc' := 197) d_Model_tries_196 rfl rfl ?_
              refine VW.iconst (pc' := 198) d_Model_tries_197 rfl (by decide) ?_
              exact VW.iret d_Model_tries_198 rfl rfl (Nat.zero_le _) (Nat.zero_le _) (by first | exact ex_pair (mTry_vict h1 (h4'.symm.trans c188)) | exact ex_pair (h2 ▸ mTry_wait h1 (fun y => c188 (h4'.trans y))))
          · exfalso; omega
      · have hx := hT.wf x (by omega) (by omega)
        have nx := ih (W 225 x) late o w0 h1 h2 hx ((mCh_go c).symm.trans h4)
        refine VW.iload (pc' := 163) d_Model_tries_161 rfl rfl ?_
        refine VW.iconst (pc' := 164) d_Model_tries_163 rfl (by decide) ?_
        refine VW.icmp_eq (tgt := 185) (pc' := 167) d_Model_tries_164 rfl rfl (fun c164 => ?_) (fun c164 => ?_)
        · exfalso; omega
        · refine VW.iload (pc' := 169) d_Model_tries_167 rfl rfl ?_
          refine VW.iload_n (pc' := 170) d_Model_tries_169 rfl rfl ?_
          refine VW.icmp_eq (tgt := 185) (pc' := 173) d_Model_tries_170 rfl rfl (fun c170 => ?_) (fun c170 => ?_)
          · exfalso; omega
          · refine VW.aload_n (pc' := 174) d_Model_tries_173 rfl rfl ?_
            refine VW.gP (ci := 11) (T := T11) (N := 94) (k := 25) (k' := 25) (pc' := 177) d_Model_tries_174 rfl lk_Model_73 in11 rfl rfl rfl rfl (hM.k rfl) (hM.p (r := some 225) 25 rfl rfl) ?_
            refine VW.iload (pc' := 179) d_Model_tries_177 rfl rfl ?_
            refine VW.ild (pc' := 180) d_Model_tries_179 rfl (hM.k rfl) (by omega) (by omega) (by first | assumption | (simp [up2] <;> rfl) | rfl) ?_
            refine VW.istore (pc' := 182) d_Model_tries_180 rfl rfl ?_
            refine VW.goto (pc' := 161) d_Model_tries_182 rfl ?_
            refine VW.nrm ?_
            exact nx
  have loop : ∀ (n m : Nat) (l : Int), m + n = W 100 41 → orI (mLateG W i) 0 m l → VW m_Model_tries false (rmv 5 128) (ex K P J (mTryI W i) (.inl (some (vI (mTryV W i))))) K P J W 0 0 60 [(0, vR (some 100)), (1, vI i), (2, vI z), (3, vI (mOth W i m)), (4, vI l), (5, vI (m : Int))] [] := by
    intro n
    induction n with
    | zero =>
      intro m l hm hl
      have em : (W 100 41).toNat = m := by omega
      have o0 := mOth_rg hT.rec (i := i) m
      have eL : mLate W i = (∃ j, 0 ≤ j ∧ j < (m : Int) ∧ mLateG W i j) := by unfold mLate; rw [← eN, em]
      have hlb := hl.bI
      rw [← eL] at hlb
      have ch := fun (h : mOth W i m ≠ -1) => chase 60 (mOth W i m) l (mOth W i m) 0 h (by rw [em]) o0 rfl
      have fL : mOth W i m = -1 → l ≠ 0 → mTryI W i = mAborts W i ∧ mTryV W i = 3 := fun y y2 => mTry_late (by rw [em]; exact y) (Classical.byContradiction (fun q => y2 (hlb.trans (bI0 q))))
      have fD : mOth W i m = -1 → l = 0 → mTryI W i = mDoes W i ∧ mTryV W i = 0 := fun y y2 => mTry_done (by rw [em]; exact y) (fun q => by rw [bI1 q, y2] at hlb; exact absurd hlb (by decide))
      clear chase
      refine VW.iload (pc' := 62) d_Model_tries_60 rfl rfl ?_
      refine VW.aload_n (pc' := 63) d_Model_tries_62 rfl rfl ?_
      refine VW.gI (ci := 11) (T := T11) (N := 94) (k := 41) (k' := 41) (pc' := 66) d_Model_tries_63 rfl lk_Model_312 in11 rfl rfl rfl rfl (hM.k rfl) (by first | assumption | (simp [up2] <;> rfl) | rfl) ?_
      refine VW.icmp_ge (tgt := 153) (pc' := 69) d_Model_tries_66 rfl rfl (fun c66 => ?_) (fun c66 => ?_)
      · refine VW.iload_n (pc' := 154) d_Model_tries_153 rfl rfl ?_
        refine VW.iconst (pc' := 155) d_Model_tries_154 rfl (by decide) ?_
        refine VW.icmp_eq (tgt := 215) (pc' := 158) d_Model_tries_155 rfl rfl (fun c155 => ?_) (fun c155 => ?_)
        · refine VW.iload (pc' := 217) d_Model_tries_215 rfl rfl ?_
          refine VW.if_eq (tgt := 228) (pc' := 220) d_Model_tries_217 rfl rfl (fun c217 => ?_) (fun c217 => ?_)
          · try have e217 := bIe c217
            refine VW.aload_n (pc' := 229) d_Model_tries_228 rfl rfl ?_
            refine VW.iload_n (pc' := 230) d_Model_tries_229 rfl rfl ?_
            refine VW.cV (ci := 11) (T := T11) (N := 94) (pc' := 233) d_Model_tries_230 rfl mv_Model_does lk_Model_363 rfl (hM.k rfl) rfl rfl rfl (Nat.le_refl _) (Nat.le_refl _) (sp_Model_does hM hb hi hT.ht a1 ⟨a2.1, hT.dn⟩ hT.hin hT.hup hT.hde) rfl rfl ?_
            refine VW.iconst (pc' := 234) d_Model_tries_233 rfl (by decide) ?_
            exact VW.iret d_Model_tries_234 rfl rfl (Nat.zero_le _) (Nat.zero_le _) (by first | exact ex_pair (fL c155 c217) | exact ex_pair (fD c155 c217))
          · try have e217 := bIn c217
            refine VW.aload_n (pc' := 221) d_Model_tries_220 rfl rfl ?_
            refine VW.iload_n (pc' := 222) d_Model_tries_221 rfl rfl ?_
            refine VW.cV (ci := 11) (T := T11) (N := 94) (pc' := 225) d_Model_tries_222 rfl mv_Model_aborts lk_Model_359 rfl (hM.k rfl) rfl rfl rfl (Nat.le_refl _) (Nat.le_refl _) (sp_Model_aborts hM hi p0 a2.1 hT.ab) rfl rfl ?_
            refine VW.pop (pc' := 226) d_Model_tries_225 rfl rfl ?_
            refine VW.iconst (pc' := 227) d_Model_tries_226 rfl (by decide) ?_
            exact VW.iret d_Model_tries_227 rfl rfl (Nat.zero_le _) (Nat.zero_le _) (by first | exact ex_pair (fL c155 c217) | exact ex_pair (fD c155 c217))
        · refine VW.iload_n (pc' := 159) d_Model_tries_158 rfl rfl ?_
          refine VW.istore (pc' := 161) d_Model_tries_159 rfl rfl ?_
          refine VW.nrm ?_
          exact ch c155
      · exfalso; omega
    | succ n ih =>
      intro m l hm hl
      have w := hT.wr m (by omega) (by omega)
      have ih1 := ih (m + 1)
      have em : ((m + 1 : Nat) : Int) = (m : Int) + 1 := by omega
      rw [em] at ih1
      have go1 : ∀ l1, mOth W i m = -1 → (orI (mLateG W i) 0 ((m : Int) + 1) l1) → VW m_Model_tries false (rmv 5 128) (ex K P J (mTryI W i) (.inl (some (vI (mTryV W i))))) K P J W 0 0 60 [(0, vR (some 100)), (1, vI i), (2, vI z), (3, vI (mWriter W i (W 242 m) (W 243 m) (W 100 44).toNat)), (4, vI l1), (5, vI ((m : Int) + 1))] [] := fun l1 y y2 => by
        have := ih1 l1 (by omega) y2
        rw [mOth_1 y] at this
        exact this
      have go0 : ∀ l1, mOth W i m ≠ -1 → (orI (mLateG W i) 0 ((m : Int) + 1) l1) → VW m_Model_tries false (rmv 5 128) (ex K P J (mTryI W i) (.inl (some (vI (mTryV W i))))) K P J W 0 0 60 [(0, vR (some 100)), (1, vI i), (2, vI z), (3, vI (mOth W i m)), (4, vI l1), (5, vI ((m : Int) + 1))] [] := fun l1 y y2 => by
        have := ih1 l1 (by omega) y2
        rw [mOth_0 y] at this
        exact this
      clear ih ih1 chase
      refine VW.iload (pc' := 62) d_Model_tries_60 rfl rfl ?_
      refine VW.aload_n (pc' := 63) d_Model_tries_62 rfl rfl ?_
      refine VW.gI (ci := 11) (T := T11) (N := 94) (k := 41) (k' := 41) (pc' := 66) d_Model_tries_63 rfl lk_Model_312 in11 rfl rfl rfl rfl (hM.k rfl) (by first | assumption | (simp [up2] <;> rfl) | rfl) ?_
      refine VW.icmp_ge (tgt := 153) (pc' := 69) d_Model_tries_66 rfl rfl (fun c66 => ?_) (fun c66 => ?_)
      · exfalso; omega
      · refine VW.iload_n (pc' := 70) d_Model_tries_69 rfl rfl ?_
        refine VW.iconst (pc' := 71) d_Model_tries_70 rfl (by decide) ?_
        refine VW.icmp_ne (tgt := 96) (pc' := 74) d_Model_tries_71 rfl rfl (fun c71 => ?_) (fun c71 => ?_)
        · refine VW.iload_n (pc' := 97) d_Model_tries_96 rfl rfl ?_
          refine VW.istore_n (pc' := 98) d_Model_tries_97 rfl rfl ?_
          refine VW.iload (pc' := 100) d_Model_tries_98 rfl rfl ?_
          refine VW.if_ne (tgt := 140) (pc' := 103) d_Model_tries_100 rfl rfl (fun c100 => ?_) (fun c100 => ?_)
          · try have e100 := bIn c100
            refine VW.iconst (pc' := 141) d_Model_tries_140 rfl (by decide) ?_
            refine VW.goto (pc' := 145) d_Model_tries_141 rfl ?_
            refine VW.istore (pc' := 147) d_Model_tries_145 rfl rfl ?_
            refine VW.iinc (pc' := 150) d_Model_tries_147 rfl rfl rfl (by omega) ?_
            refine VW.goto (pc' := 60) d_Model_tries_150 rfl ?_
            refine VW.nrm ?_
            first | exact go1 _ c71 (by first | exact hl.keep c100 | exact orI.hit (by omega) c137 | exact hl.no c100 (by unfold mLateG; omega)) | exact go0 _ c71 (by first | exact hl.keep c100 | exact orI.hit (by omega) c137 | exact hl.no c100 (by unfold mLateG; omega))
          · try have e100 := bIe c100
            refine VW.aload_n (pc' := 104) d_Model_tries_103 rfl rfl ?_
            refine VW.gP (ci := 11) (T := T11) (N := 94) (k := 17) (k' := 17) (pc' := 107) d_Model_tries_104 rfl lk_Model_52 in11 rfl rfl rfl rfl (hM.k rfl) (hM.p (r := some 217) 17 rfl rfl) ?_
            refine VW.sipush (pc' := 110) d_Model_tries_107 rfl (by decide) ?_
            refine VW.aload_n (pc' := 111) d_Model_tries_110 rfl rfl ?_
            refine VW.gP (ci := 11) (T := T11) (N := 94) (k := 42) (k' := 42) (pc' := 114) d_Model_tries_111 rfl lk_Model_120 in11 rfl rfl rfl rfl (hM.k rfl) (hM.p (r := some 242) 42 rfl rfl) ?_
            refine VW.iload (pc' := 116) d_Model_tries_114 rfl rfl ?_
            refine VW.ild (pc' := 117) d_Model_tries_116 rfl (hM.k rfl) (by omega) (by omega) (by first | assumption | (simp [up2] <;> rfl) | rfl) ?_
            refine VW.imul (pc' := 118) d_Model_tries_117 rfl (by omega) ?_
            refine VW.aload_n (pc' := 119) d_Model_tries_118 rfl rfl ?_
            refine VW.gP (ci := 11) (T := T11) (N := 94) (k := 43) (k' := 43) (pc' := 122) d_Model_tries_119 rfl lk_Model_123 in11 rfl rfl rfl rfl (hM.k rfl) (hM.p (r := some 243) 43 rfl rfl) ?_
            refine VW.iload (pc' := 124) d_Model_tries_122 rfl rfl ?_
            refine VW.ild (pc' := 125) d_Model_tries_124 rfl (hM.k rfl) (by omega) (by omega) (by first | assumption | (simp [up2] <;> rfl) | rfl) ?_
            refine VW.iadd (pc' := 126) d_Model_tries_125 rfl (by omega) ?_
            refine VW.sipush (pc' := 129) d_Model_tries_126 rfl (by decide) ?_
            refine VW.iadd (pc' := 130) d_Model_tries_129 rfl (by omega) ?_
            refine VW.ild (pc' := 131) d_Model_tries_130 rfl (hM.k rfl) (by omega) (by omega) (by first | assumption | (simp [up2] <;> rfl) | rfl) ?_
            refine VW.aload_n (pc' := 132) d_Model_tries_131 rfl rfl ?_
            refine VW.gP (ci := 11) (T := T11) (N := 94) (k := 24) (k' := 24) (pc' := 135) d_Model_tries_132 rfl lk_Model_70 in11 rfl rfl rfl rfl (hM.k rfl) (hM.p (r := some 224) 24 rfl rfl) ?_
            refine VW.iload_n (pc' := 136) d_Model_tries_135 rfl rfl ?_
            refine VW.ild (pc' := 137) d_Model_tries_136 rfl (hM.k rfl) (by omega) (by omega) (by first | assumption | (simp [up2] <;> rfl) | rfl) ?_
            refine VW.icmp_le (tgt := 144) (pc' := 140) d_Model_tries_137 rfl rfl (fun c137 => ?_) (fun c137 => ?_)
            · refine VW.iconst (pc' := 145) d_Model_tries_144 rfl (by decide) ?_
              refine VW.istore (pc' := 147) d_Model_tries_145 rfl rfl ?_
              refine VW.iinc (pc' := 150) d_Model_tries_147 rfl rfl rfl (by omega) ?_
              refine VW.goto (pc' := 60) d_Model_tries_150 rfl ?_
              refine VW.nrm ?_
              first | exact go1 _ c71 (by first | exact hl.keep c100 | exact orI.hit (by omega) c137 | exact hl.no c100 (by unfold mLateG; omega)) | exact go0 _ c71 (by first | exact hl.keep c100 | exact orI.hit (by omega) c137 | exact hl.no c100 (by unfold mLateG; omega))
            · refine VW.iconst (pc' := 141) d_Model_tries_140 rfl (by decide) ?_
              refine VW.goto (pc' := 145) d_Model_tries_141 rfl ?_
              refine VW.istore (pc' := 147) d_Model_tries_145 rfl rfl ?_
              refine VW.iinc (pc' := 150) d_Model_tries_147 rfl rfl rfl (by omega) ?_
              refine VW.goto (pc' := 60) d_Model_tries_150 rfl ?_
              refine VW.nrm ?_
              first | exact go1 _ c71 (by first | exact hl.keep c100 | exact orI.hit (by omega) c137 | exact hl.no c100 (by unfold mLateG; omega)) | exact go0 _ c71 (by first | exact hl.keep c100 | exact orI.hit (by omega) c137 | exact hl.no c100 (by unfold mLateG; omega))
        · refine VW.aload_n (pc' := 75) d_Model_tries_74 rfl rfl ?_
          refine VW.iload_n (pc' := 76) d_Model_tries_75 rfl rfl ?_
          refine VW.aload_n (pc' := 77) d_Model_tries_76 rfl rfl ?_
          refine VW.gP (ci := 11) (T := T11) (N := 94) (k := 42) (k' := 42) (pc' := 80) d_Model_tries_77 rfl lk_Model_120 in11 rfl rfl rfl rfl (hM.k rfl) (hM.p (r := some 242) 42 rfl rfl) ?_
          refine VW.iload (pc' := 82) d_Model_tries_80 rfl rfl ?_
          refine VW.ild (pc' := 83) d_Model_tries_82 rfl (hM.k rfl) (by omega) (by omega) (by first | assumption | (simp [up2] <;> rfl) | rfl) ?_
          refine VW.aload_n (pc' := 84) d_Model_tries_83 rfl rfl ?_
          refine VW.gP (ci := 11) (T := T11) (N := 94) (k := 43) (k' := 43) (pc' := 87) d_Model_tries_84 rfl lk_Model_123 in11 rfl rfl rfl rfl (hM.k rfl) (hM.p (r := some 243) 43 rfl rfl) ?_
          refine VW.iload (pc' := 89) d_Model_tries_87 rfl rfl ?_
          refine VW.ild (pc' := 90) d_Model_tries_89 rfl (hM.k rfl) (by omega) (by omega) (by first | assumption | (simp [up2] <;> rfl) | rfl) ?_
          refine VW.cV (ci := 11) (T := T11) (N := 94) (pc' := 93) d_Model_tries_90 rfl mv_Model_writer lk_Model_356 rfl (hM.k rfl) rfl rfl rfl (Nat.le_refl _) (Nat.le_refl _) (sp_Model_writer hM a2 hT.rec) rfl rfl ?_
          refine VW.goto (pc' := 97) d_Model_tries_93 rfl ?_
          refine VW.istore_n (pc' := 98) d_Model_tries_97 rfl rfl ?_
          refine VW.iload (pc' := 100) d_Model_tries_98 rfl rfl ?_
          refine VW.if_ne (tgt := 140) (pc' := 103) d_Model_tries_100 rfl rfl (fun c100 => ?_) (fun c100 => ?_)
          · try have e100 := bIn c100
            refine VW.iconst (pc' := 141) d_Model_tries_140 rfl (by decide) ?_
            refine VW.goto (pc' := 145) d_Model_tries_141 rfl ?_
            refine VW.istore (pc' := 147) d_Model_tries_145 rfl rfl ?_
            refine VW.iinc (pc' := 150) d_Model_tries_147 rfl rfl rfl (by omega) ?_
            refine VW.goto (pc' := 60) d_Model_tries_150 rfl ?_
            refine VW.nrm ?_
            first | exact go1 _ c71 (by first | exact hl.keep c100 | exact orI.hit (by omega) c137 | exact hl.no c100 (by unfold mLateG; omega)) | exact go0 _ c71 (by first | exact hl.keep c100 | exact orI.hit (by omega) c137 | exact hl.no c100 (by unfold mLateG; omega))
          · try have e100 := bIe c100
            refine VW.aload_n (pc' := 104) d_Model_tries_103 rfl rfl ?_
            refine VW.gP (ci := 11) (T := T11) (N := 94) (k := 17) (k' := 17) (pc' := 107) d_Model_tries_104 rfl lk_Model_52 in11 rfl rfl rfl rfl (hM.k rfl) (hM.p (r := some 217) 17 rfl rfl) ?_
            refine VW.sipush (pc' := 110) d_Model_tries_107 rfl (by decide) ?_
            refine VW.aload_n (pc' := 111) d_Model_tries_110 rfl rfl ?_
            refine VW.gP (ci := 11) (T := T11) (N := 94) (k := 42) (k' := 42) (pc' := 114) d_Model_tries_111 rfl lk_Model_120 in11 rfl rfl rfl rfl (hM.k rfl) (hM.p (r := some 242) 42 rfl rfl) ?_
            refine VW.iload (pc' := 116) d_Model_tries_114 rfl rfl ?_
            refine VW.ild (pc' := 117) d_Model_tries_116 rfl (hM.k rfl) (by omega) (by omega) (by first | assumption | (simp [up2] <;> rfl) | rfl) ?_
            refine VW.imul (pc' := 118) d_Model_tries_117 rfl (by omega) ?_
            refine VW.aload_n (pc' := 119) d_Model_tries_118 rfl rfl ?_
            refine VW.gP (ci := 11) (T := T11) (N := 94) (k := 43) (k' := 43) (pc' := 122) d_Model_tries_119 rfl lk_Model_123 in11 rfl rfl rfl rfl (hM.k rfl) (hM.p (r := some 243) 43 rfl rfl) ?_
            refine VW.iload (pc' := 124) d_Model_tries_122 rfl rfl ?_
            refine VW.ild (pc' := 125) d_Model_tries_124 rfl (hM.k rfl) (by omega) (by omega) (by first | assumption | (simp [up2] <;> rfl) | rfl) ?_
            refine VW.iadd (pc' := 126) d_Model_tries_125 rfl (by omega) ?_
            refine VW.sipush (pc' := 129) d_Model_tries_126 rfl (by decide) ?_
            refine VW.iadd (pc' := 130) d_Model_tries_129 rfl (by omega) ?_
            refine VW.ild (pc' := 131) d_Model_tries_130 rfl (hM.k rfl) (by omega) (by omega) (by first | assumption | (simp [up2] <;> rfl) | rfl) ?_
            refine VW.aload_n (pc' := 132) d_Model_tries_131 rfl rfl ?_
            refine VW.gP (ci := 11) (T := T11) (N := 94) (k := 24) (k' := 24) (pc' := 135) d_Model_tries_132 rfl lk_Model_70 in11 rfl rfl rfl rfl (hM.k rfl) (hM.p (r := some 224) 24 rfl rfl) ?_
            refine VW.iload_n (pc' := 136) d_Model_tries_135 rfl rfl ?_
            refine VW.ild (pc' := 137) d_Model_tries_136 rfl (hM.k rfl) (by omega) (by omega) (by first | assumption | (simp [up2] <;> rfl) | rfl) ?_
            refine VW.icmp_le (tgt := 144) (pc' := 140) d_Model_tries_137 rfl rfl (fun c137 => ?_) (fun c137 => ?_)
            · refine VW.iconst (pc' := 145) d_Model_tries_144 rfl (by decide) ?_
              refine VW.istore (pc' := 147) d_Model_tries_145 rfl rfl ?_
              refine VW.iinc (pc' := 150) d_Model_tries_147 rfl rfl rfl (by omega) ?_
              refine VW.goto (pc' := 60) d_Model_tries_150 rfl ?_
              refine VW.nrm ?_
              first | exact go1 _ c71 (by first | exact hl.keep c100 | exact orI.hit (by omega) c137 | exact hl.no c100 (by unfold mLateG; omega)) | exact go0 _ c71 (by first | exact hl.keep c100 | exact orI.hit (by omega) c137 | exact hl.no c100 (by unfold mLateG; omega))
            · refine VW.iconst (pc' := 141) d_Model_tries_140 rfl (by decide) ?_
              refine VW.goto (pc' := 145) d_Model_tries_141 rfl ?_
              refine VW.istore (pc' := 147) d_Model_tries_145 rfl rfl ?_
              refine VW.iinc (pc' := 150) d_Model_tries_147 rfl rfl rfl (by omega) ?_
              refine VW.goto (pc' := 60) d_Model_tries_150 rfl ?_
              refine VW.nrm ?_
              first | exact go1 _ c71 (by first | exact hl.keep c100 | exact orI.hit (by omega) c137 | exact hl.no c100 (by unfold mLateG; omega)) | exact go0 _ c71 (by first | exact hl.keep c100 | exact orI.hit (by omega) c137 | exact hl.no c100 (by unfold mLateG; omega))
  refine VW.iconst (pc' := 53) d_Model_tries_52 rfl (by decide) ?_
  refine VW.istore_n (pc' := 54) d_Model_tries_53 rfl rfl ?_
  refine VW.iconst (pc' := 55) d_Model_tries_54 rfl (by decide) ?_
  refine VW.istore (pc' := 57) d_Model_tries_55 rfl rfl ?_
  refine VW.iconst (pc' := 58) d_Model_tries_57 rfl (by decide) ?_
  refine VW.istore (pc' := 60) d_Model_tries_58 rfl rfl ?_
  refine VW.nrm ?_
  exact loop (W 100 41).toNat 0 0 (by omega) orI.z
end
