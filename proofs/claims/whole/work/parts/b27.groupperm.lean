/-! groups: order, weight -/
section
def keyOf (A : Int) (r : List Int) : Int := if A = -1 then -2147483648 else nth r A
def valOf (how C : Int) (r : List Int) : Int := if how = 0 then 0 else nth r C
def gvL (how A C key : Int) (L : List (List Int)) : List Int := (L.filter (fun r => decide (keyOf A r = key))).map (valOf how C)
def gv (how A C key : Int) (L : List (List Int)) : Int := (gvL how A C key L).foldl (gath how) (gInit how)
/-- groups are what the keys of Kp gather, f of each -/
def GrS (acc : List (List Int)) (Kp : Int → Prop) (f : Int → Int) : Prop := (acc.map (fun z => nth z 0)).Nodup ∧ ∀ z, z ∈ acc ↔ (z = [nth z 0, f (nth z 0)] ∧ Kp (nth z 0))
theorem GrS.upd {acc : List (List Int)} {Kp : Int → Prop} {f : Int → Int} {how k v : Int} (h : GrS acc Kp f) (hi : ¬ Kp k → f k = gInit how) : GrS (gUpd how k v acc) (fun x => Kp x ∨ x = k) (fun x => if x = k then gath how (f k) v else f x) := by
  obtain ⟨h1, h2⟩ := h
  by_cases hk : Kp k
  · have hm : [k, f k] ∈ acc := (h2 _).mpr ⟨rfl, hk⟩
    obtain ⟨A, B, e⟩ := List.append_of_mem hm
    subst e
    rw [List.map_append, List.map_cons] at h1
    obtain ⟨n1, n2, n3⟩ := List.nodup_append.mp h1
    have n2' := List.nodup_cons.mp n2
    have kA : ∀ r ∈ A, nth r 0 ≠ k := fun r hr => n3 _ (List.mem_map.mpr ⟨r, hr, rfl⟩) k List.mem_cons_self
    have kB : ∀ r ∈ B, nth r 0 ≠ k := fun r hr e => n2'.1 (List.mem_map.mpr ⟨r, hr, e⟩)
    have e1 : gUpd how k v (A ++ [k, f k] :: B) = A ++ [k, gath how (f k) v] :: B := gUpd_at kA rfl
    rw [e1]
    refine ⟨?_, fun z => ?_⟩
    · rw [List.map_append, List.map_cons]; exact h1
    · show z ∈ A ++ [k, gath how (f k) v] :: B ↔ z = [nth z 0, if nth z 0 = k then gath how (f k) v else f (nth z 0)] ∧ (Kp (nth z 0) ∨ nth z 0 = k)
      by_cases e : nth z 0 = k
      · rw [if_pos e, e]
        constructor
        · intro hz
          rcases List.mem_append.mp hz with q | q
          · exact absurd e (kA z q)
          · rcases List.mem_cons.mp q with q | q
            · exact ⟨q, Or.inr rfl⟩
            · exact absurd e (kB z q)
        · rintro ⟨q, -⟩
          rw [q]
          exact List.mem_append_right _ List.mem_cons_self
      · rw [if_neg e]
        have hz := h2 z
        constructor
        · intro q
          have : z ∈ A ++ [k, f k] :: B := by
            rcases List.mem_append.mp q with q | q
            · exact List.mem_append_left _ q
            · rcases List.mem_cons.mp q with q | q
              · exact absurd (by rw [q]; rfl) e
              · exact List.mem_append_right _ (List.mem_cons_of_mem _ q)
          exact ⟨(hz.mp this).1, Or.inl (hz.mp this).2⟩
        · rintro ⟨q1, q2⟩
          have := hz.mpr ⟨q1, q2.resolve_right e⟩
          rcases List.mem_append.mp this with q | q
          · exact List.mem_append_left _ q
          · rcases List.mem_cons.mp q with q | q
            · exact absurd (by rw [q]; rfl) e
            · exact List.mem_append_right _ (List.mem_cons_of_mem _ q)
  · have kA : ∀ r ∈ acc, nth r 0 ≠ k := fun r hr e => hk (by rw [← e]; exact ((h2 r).mp hr).2)
    rw [gUpd_new kA]
    refine ⟨?_, fun z => ?_⟩
    · rw [List.map_append]
      refine List.nodup_append.mpr ⟨h1, by simp, fun a ha b hb => ?_⟩
      obtain ⟨r, hr, e⟩ := List.mem_map.mp ha
      have : b = k := by first | exact List.mem_singleton.mp hb | simpa using hb
      rw [this, ← e]
      exact kA r hr
    · show z ∈ acc ++ [[k, gath how (gInit how) v]] ↔ z = [nth z 0, if nth z 0 = k then gath how (f k) v else f (nth z 0)] ∧ (Kp (nth z 0) ∨ nth z 0 = k)
      rw [List.mem_append]
      by_cases e : nth z 0 = k
      · rw [if_pos e, hi hk, e]
        constructor
        · rintro (q | q)
          · exact absurd e (kA z q)
          · have : z = [k, gath how (gInit how) v] := by first | exact List.mem_singleton.mp q | simpa using q
            exact ⟨this, Or.inr rfl⟩
        · rintro ⟨q, -⟩
          rw [q]; exact Or.inr List.mem_cons_self
      · rw [if_neg e]
        constructor
        · rintro (q | q)
          · exact ⟨((h2 z).mp q).1, Or.inl ((h2 z).mp q).2⟩
          · have : z = [k, gath how (gInit how) v] := by first | exact List.mem_singleton.mp q | simpa using q
            exact absurd (by rw [this]; rfl) e
        · rintro ⟨q1, q2⟩
          exact Or.inl ((h2 z).mpr ⟨q1, q2.resolve_right e⟩)
theorem gvL_snoc {how A C key : Int} {L : List (List Int)} {r : List Int} : gvL how A C key (L ++ [r]) = if keyOf A r = key then gvL how A C key L ++ [valOf how C r] else gvL how A C key L := by
  unfold gvL
  rw [List.filter_append]
  split
  · next h => simp [List.filter_cons, h]
  · next h => simp [List.filter_cons, h]
theorem groups_set {how A C : Int} : ∀ L : List (List Int), GrS (groupL how A C L) (fun k => (A = -1 ∧ k = -2147483648) ∨ ∃ r ∈ L, keyOf A r = k) (fun k => gv how A C k L) := by
  refine snoc_ind ?_ (fun L r ih => ?_)
  · unfold groupL
    show GrS (g0 how A) _ _
    unfold g0
    split
    · next h =>
      refine ⟨by simp, fun z => ?_⟩
      show z ∈ [[-2147483648, gInit how]] ↔ z = [nth z 0, gInit how] ∧ _
      constructor
      · intro q
        have : z = [-2147483648, gInit how] := by first | exact List.mem_singleton.mp q | simpa using q
        rw [this]; exact ⟨rfl, Or.inl ⟨h, rfl⟩⟩
      · rintro ⟨q, (⟨-, w⟩ | ⟨_, w, _⟩)⟩
        · rw [q, w]; exact List.mem_cons_self
        · cases w
    · next h =>
      refine ⟨List.nodup_nil, fun z => ⟨fun q => (by cases q), fun q => ?_⟩⟩
      rcases q.2 with ⟨w, -⟩ | ⟨_, w, _⟩
      · exact absurd w h
      · cases w
  · rw [groupL_snoc]
    have hu := ih.upd (how := how) (k := keyOf A r) (v := valOf how C r) (fun hno => by
      have : gvL how A C (keyOf A r) L = [] := by
        unfold gvL
        rw [List.filter_eq_nil_iff.mpr (fun x hx => by rw [decide_eq_true_iff]; exact fun e => hno (Or.inr ⟨x, hx, e⟩))]; rfl
      show gv how A C (keyOf A r) L = _
      unfold gv
      rw [this]; rfl)
    have e1 : gStep how A C (groupL how A C L) r = gUpd how (keyOf A r) (valOf how C r) (groupL how A C L) := rfl
    rw [e1]
    refine ⟨hu.1, fun z => (hu.2 z).trans ?_⟩
    have e2 : (if nth z 0 = keyOf A r then gath how (gv how A C (keyOf A r) L) (valOf how C r) else gv how A C (nth z 0) L) = gv how A C (nth z 0) (L ++ [r]) := by
      unfold gv
      rw [gvL_snoc]
      by_cases e : nth z 0 = keyOf A r
      · rw [if_pos e, if_pos e.symm, List.foldl_append, e]; rfl
      · rw [if_neg e, if_neg (fun x => e x.symm)]
    show z = [nth z 0, if nth z 0 = keyOf A r then gath how (gv how A C (keyOf A r) L) (valOf how C r) else gv how A C (nth z 0) L] ∧ (((A = -1 ∧ nth z 0 = -2147483648) ∨ ∃ x ∈ L, keyOf A x = nth z 0) ∨ nth z 0 = keyOf A r) ↔ z = [nth z 0, gv how A C (nth z 0) (L ++ [r])] ∧ ((A = -1 ∧ nth z 0 = -2147483648) ∨ ∃ x ∈ L ++ [r], keyOf A x = nth z 0)
    rw [e2]
    refine and_congr_right (fun _ => ?_)
    constructor
    · rintro ((q | ⟨x, hx, q⟩) | q)
      · exact Or.inl q
      · exact Or.inr ⟨x, List.mem_append_left _ hx, q⟩
      · exact Or.inr ⟨r, List.mem_append_right _ List.mem_cons_self, q.symm⟩
    · rintro (q | ⟨x, hx, q⟩)
      · exact Or.inl (Or.inl q)
      · rcases List.mem_append.mp hx with w | w
        · exact Or.inl (Or.inr ⟨x, w, q⟩)
        · have : x = r := by first | exact List.mem_singleton.mp w | simpa using w
          rw [this] at q; exact Or.inr q.symm
/-- what is gathered, NULL being none -/
def gop (how x v : Int) : Int := if how = 1 then x + v else if how = 2 then (if x < v then x else v) else (if v < x then x else v)
def gO (how : Int) (h : Option Int) (v : Int) : Option Int := if v = -2147483648 then h else match h with
  | none => some v
  | some x => some (gop how x v)
def dO : Option Int → Int
  | none => -2147483648
  | some x => x
theorem gop_comm {how x y : Int} : gop how x y = gop how y x := by
  unfold gop
  split
  · omega
  · split
    · split <;> split <;> omega
    · split <;> split <;> omega
theorem gop_assoc {how a x y : Int} : gop how (gop how a x) y = gop how (gop how a y) x := by
  unfold gop
  by_cases h1 : how = 1
  · simp only [if_pos h1]; omega
  · simp only [if_neg h1]
    by_cases h2 : how = 2
    · simp only [if_pos h2]
      by_cases c1 : a < x <;> by_cases c2 : a < y <;> by_cases c3 : x < y <;> by_cases c4 : y < x <;> simp only [c1, c2, c3, c4, if_true, if_false, if_pos, if_neg] <;> omega
    · simp only [if_neg h2]
      by_cases c1 : x < a <;> by_cases c2 : y < a <;> by_cases c3 : x < y <;> by_cases c4 : y < x <;> simp only [c1, c2, c3, c4, if_true, if_false, if_pos, if_neg] <;> omega
theorem gO_comm {how : Int} (z : Option Int) (x y : Int) : gO how (gO how z x) y = gO how (gO how z y) x := by
  unfold gO
  by_cases hx : x = -2147483648
  · simp only [if_pos hx]
  · by_cases hy : y = -2147483648
    · simp only [if_pos hy]
    · simp only [if_neg hx, if_neg hy]
      cases z with
      | none => exact congrArg some gop_comm
      | some a => exact congrArg some gop_assoc
def sav : List Int → Int
  | [] => 0
  | v :: r => av v + sav r
theorem sav_nn : ∀ r : List Int, 0 ≤ sav r := by
  intro r
  induction r with
  | nil => exact Int.le_refl _
  | cons v r ih => have := av_nn v; show 0 ≤ av v + sav r; omega
theorem gath_gO {how : Int} (h0 : how ≠ 0) : ∀ (V : List Int) (h : Option Int), (∀ x, h = some x → av x + sav V < 2147483648 ∧ x ≠ -2147483648) → sav V < 2147483648 → V.foldl (gath how) (dO h) = dO (V.foldl (gO how) h) := by
  intro V
  induction V with
  | nil => intro h _ _; rfl
  | cons v V ih =>
    intro h hb hs
    have vn := av_nn v
    have sn := sav_nn V
    have hs' : av v + sav V < 2147483648 := hs
    show V.foldl (gath how) (gath how (dO h) v) = dO (V.foldl (gO how) (gO how h v))
    by_cases hv : v = -2147483648
    · have e1 : gath how (dO h) v = dO h := (if_neg h0).trans (if_pos hv)
      have e2 : gO how h v = h := if_pos hv
      rw [e1, e2]
      exact ih h (fun x hx => ⟨by have : av x + (av v + sav V) < 2147483648 := (hb x hx).1; omega, (hb x hx).2⟩) (by omega)
    · cases h with
      | none =>
        have e1 : gath how (dO none) v = v := (if_neg h0).trans ((if_neg hv).trans (if_pos rfl))
        have e2 : gO how none v = some v := if_neg hv
        rw [e1, e2]
        exact ih (some v) (fun x hx => by cases hx; exact ⟨hs', hv⟩) (by omega)
      | some a =>
        obtain ⟨q1, q2⟩ := hb a rfl
        have q1' : av a + (av v + sav V) < 2147483648 := q1
        have e1 : gath how (dO (some a)) v = gop how a v := (if_neg h0).trans ((if_neg hv).trans (if_neg q2))
        have e2 : gO how (some a) v = some (gop how a v) := if_neg hv
        have aa : av a = if a < 0 then -a else a := if_neg q2
        have vv : av v = if v < 0 then -v else v := if_neg hv
        have rg : -2147483648 < gop how a v ∧ av (gop how a v) ≤ av a + av v := by
          have r1 : -(av a + av v) ≤ gop how a v ∧ gop how a v ≤ av a + av v := by
            rw [aa, vv]
            unfold gop
            split <;> split <;> (try split) <;> (try split) <;> omega
          refine ⟨by omega, ?_⟩
          have e3 : av (gop how a v) = if gop how a v < 0 then -(gop how a v) else gop how a v := if_neg (by omega)
          rw [e3]
          split <;> omega
        rw [e1, e2]
        exact ih (some (gop how a v)) (fun x hx => by cases hx; exact ⟨by omega, by omega⟩) (by omega)
theorem gath_perm {how : Int} {V V' : List Int} (h : V.Perm V') (hs : sav V < 2147483648) (hs' : sav V' < 2147483648) : V.foldl (gath how) (gInit how) = V'.foldl (gath how) (gInit how) := by
  by_cases h0 : how = 0
  · refine List.Perm.foldl_eq' h (fun x _ y _ z => ?_) _
    have e : ∀ a b, gath how a b = a + 1 := fun a b => if_pos h0
    rw [e, e, e, e]
  · have e : gInit how = dO none := if_neg h0
    rw [e, gath_gO h0 V none (fun x hx => by cases hx) hs, gath_gO h0 V' none (fun x hx => by cases hx) hs', List.Perm.foldl_eq' h (fun x _ y _ z => gO_comm z x y)]
theorem sav_gvL {how A C key : Int} : ∀ L : List (List Int), sav (gvL how A C key L) ≤ tw L := by
  intro L
  induction L with
  | nil => exact Int.le_refl _
  | cons r L ih =>
    have r1 := rm_1 r
    have rv : av (valOf how C r) ≤ rm r := by
      unfold valOf
      split
      · have : av 0 = 0 := by decide
        omega
      · exact nth_av r C
    unfold gvL at ih ⊢
    show _ ≤ rm r + tw L
    by_cases e : keyOf A r = key
    · have e2 : List.filter (fun r => decide (keyOf A r = key)) (r :: L) = r :: List.filter (fun r => decide (keyOf A r = key)) L := by simp [List.filter_cons, e]
      rw [e2]
      show av (valOf how C r) + sav _ ≤ _
      omega
    · have e2 : List.filter (fun r => decide (keyOf A r = key)) (r :: L) = List.filter (fun r => decide (keyOf A r = key)) L := by simp [List.filter_cons, e]
      rw [e2]
      omega
theorem groupL_perm {how A C : Int} {L L' : List (List Int)} (h : L.Perm L') (hw : tw L < 2147483648) : (groupL how A C L).Perm (groupL how A C L') := by
  obtain ⟨a1, a2⟩ := groups_set (how := how) (A := A) (C := C) L
  obtain ⟨b1, b2⟩ := groups_set (how := how) (A := A) (C := C) L'
  have nd : ∀ {acc : List (List Int)}, (acc.map (fun z => nth z 0)).Nodup → acc.Nodup := fun {acc} q => by
    induction acc with
    | nil => exact List.nodup_nil
    | cons x l ih =>
      rw [List.map_cons] at q
      obtain ⟨q1, q2⟩ := List.nodup_cons.mp q
      exact List.nodup_cons.mpr ⟨fun w => q1 (List.mem_map.mpr ⟨x, w, rfl⟩), ih q2⟩
  refine (List.perm_ext_iff_of_nodup (nd a1) (nd b1)).mpr (fun z => (a2 z).trans (Iff.trans ?_ (b2 z).symm))
  have e : gv how A C (nth z 0) L = gv how A C (nth z 0) L' := by
    unfold gv
    refine gath_perm (List.Perm.map _ (List.Perm.filter _ h)) ?_ ?_
    · have := sav_gvL (how := how) (A := A) (C := C) (key := nth z 0) L; omega
    · have := sav_gvL (how := how) (A := A) (C := C) (key := nth z 0) L'
      have := tw_perm h
      omega
  show z = [nth z 0, gv how A C (nth z 0) L] ∧ _ ↔ z = [nth z 0, gv how A C (nth z 0) L'] ∧ _
  rw [e]
  refine and_congr_right (fun _ => or_congr_right ?_)
  exact ⟨fun ⟨x, hx, q⟩ => ⟨x, h.mem_iff.mp hx, q⟩, fun ⟨x, hx, q⟩ => ⟨x, h.mem_iff.mpr hx, q⟩⟩
/-- weight -/
theorem gath_av {how h v m : Int} (h1 : 1 ≤ m) (hv : av v ≤ m) (h0 : how = 0 → 0 ≤ h) : av (gath how h v) ≤ av h + m := by
  unfold gath
  split
  · next e =>
    have := h0 e
    unfold av
    split <;> split <;> (try split) <;> (try split) <;> omega
  · split
    · have := av_nn h; omega
    · split
      · have := av_nn h; omega
      · next n1 n2 n3 =>
        have ea : av h = if h < 0 then -h else h := if_neg n3
        have eb : av v = if v < 0 then -v else v := if_neg n2
        have q : ∀ x, -(av h + av v) ≤ x → x ≤ av h + av v → av x ≤ av h + m := fun x x0 x1 => by
          unfold av
          split
          · have := av_nn h; unfold av at this; omega
          · split <;> (unfold av at x0 x1 hv; omega)
        refine q _ ?_ ?_
        · rw [ea, eb]; split <;> split <;> (try split) <;> (try split) <;> omega
        · rw [ea, eb]; split <;> split <;> (try split) <;> (try split) <;> omega
theorem rm_2 {a b : Int} {m : Int} (h1 : 1 ≤ m) (ha : av a ≤ m) (hb : av b ≤ m) : rm [a, b] ≤ m := by
  refine rm_le h1 (fun v hv => ?_)
  rcases List.mem_cons.mp hv with e | e
  · rw [e]; exact ha
  · rcases List.mem_cons.mp e with e | e
    · rw [e]; exact hb
    · cases e
theorem gUpd_w {how k v m : Int} (h1 : 1 ≤ m) (hk : av k ≤ m) (hv : av v ≤ m) : ∀ acc : List (List Int), (how = 0 → ∀ r ∈ acc, 0 ≤ nth r 1) → tw (gUpd how k v acc) ≤ tw acc + m ∧ (how = 0 → ∀ r ∈ gUpd how k v acc, 0 ≤ nth r 1) := by
  intro acc
  induction acc with
  | nil =>
    intro _
    refine ⟨?_, fun e r hr => ?_⟩
    · show rm [k, gath how (gInit how) v] + 0 ≤ 0 + m
      have g : av (gInit how) = 0 := by unfold gInit; split <;> decide
      have := gath_av (h := gInit how) h1 hv (fun e => by unfold gInit; rw [if_pos e]; omega)
      have := rm_2 h1 hk (b := gath how (gInit how) v) (by omega)
      omega
    · have : r = [k, gath how (gInit how) v] := by first | exact List.mem_singleton.mp hr | simpa using hr
      rw [this]
      show 0 ≤ gath how (gInit how) v
      unfold gath gInit
      rw [if_pos e, if_pos e]; omega
  | cons r rs ih =>
    intro h0
    obtain ⟨i1, i2⟩ := ih (fun e x hx => h0 e x (List.mem_cons_of_mem _ hx))
    have r1 := rm_1 r
    by_cases e : nth r 0 = k
    · have eu : gUpd how k v (r :: rs) = [nth r 0, gath how (nth r 1) v] :: rs := if_pos e
      rw [eu]
      refine ⟨?_, fun e0 x hx => ?_⟩
      · show rm [nth r 0, gath how (nth r 1) v] + tw rs ≤ rm r + tw rs + m
        have a := gath_av (how := how) (h := nth r 1) h1 hv (fun e0 => h0 e0 r List.mem_cons_self)
        have b := nth_av r 1
        have c := nth_av r 0
        have := rm_2 (a := nth r 0) (b := gath how (nth r 1) v) (m := rm r + m) (by omega) (by omega) (by omega)
        omega
      · rcases List.mem_cons.mp hx with q | q
        · rw [q]
          have := h0 e0 r List.mem_cons_self
          show 0 ≤ gath how (nth r 1) v
          unfold gath
          rw [if_pos e0]; omega
        · exact h0 e0 x (List.mem_cons_of_mem _ q)
    · have eu : gUpd how k v (r :: rs) = r :: gUpd how k v rs := if_neg e
      rw [eu]
      refine ⟨?_, fun e0 x hx => ?_⟩
      · show rm r + tw (gUpd how k v rs) ≤ rm r + tw rs + m
        omega
      · rcases List.mem_cons.mp hx with q | q
        · rw [q]; exact h0 e0 r List.mem_cons_self
        · exact i2 e0 x q
theorem groupL_w {how A C : Int} : ∀ L : List (List Int), tw (groupL how A C L) ≤ 1 + tw L ∧ (how = 0 → ∀ r ∈ groupL how A C L, 0 ≤ nth r 1) := by
  refine snoc_ind ?_ (fun L r ih => ?_)
  · unfold groupL
    show tw (g0 how A) ≤ 1 + 0 ∧ (how = 0 → ∀ r ∈ g0 how A, 0 ≤ nth r 1)
    unfold g0
    split
    · refine ⟨?_, fun e r hr => ?_⟩
      · show rm [-2147483648, gInit how] + 0 ≤ 1 + 0
        have := rm_2 (a := -2147483648) (b := gInit how) (m := 1) (Int.le_refl _) (by decide) (by unfold gInit; split <;> decide)
        omega
      · have : r = [-2147483648, gInit how] := by first | exact List.mem_singleton.mp hr | simpa using hr
        rw [this]
        show 0 ≤ gInit how
        unfold gInit; rw [if_pos e]; omega
    · exact ⟨by decide, fun _ r hr => by cases hr⟩
  · rw [groupL_snoc]
    have e1 : gStep how A C (groupL how A C L) r = gUpd how (keyOf A r) (valOf how C r) (groupL how A C L) := rfl
    have z : av 0 = 0 := by decide
    have r1 := rm_1 r
    have kb : av (keyOf A r) ≤ rm r := by
      unfold keyOf
      split
      · rw [av_null]; omega
      · exact nth_av r A
    have vb : av (valOf how C r) ≤ rm r := by
      unfold valOf
      split
      · rw [z]; omega
      · exact nth_av r C
    have := gUpd_w (how := how) (k := keyOf A r) (v := valOf how C r) (rm_1 r) kb vb (groupL how A C L) ih.2
    rw [e1, tw_app]
    refine ⟨?_, this.2⟩
    have : tw [r] = rm r + 0 := rfl
    have := ih.1
    omega
theorem groupL_rg {how A C : Int} {L : List (List Int)} (hw : tw L < 2147483646) : ∀ k : Nat, k < L.length → ∀ z ∈ groupL how A C (L.take (k + 1)), inR (nth z 1) := by
  intro k _ z hz
  have a := (groupL_w (how := how) (A := A) (C := C) (L.take (k + 1))).1
  have b := tw_sub (List.take_sublist (k + 1) L)
  have c := tw_mem hz
  have d := nth_av z 1
  unfold inR
  unfold av at d
  split at d
  · omega
  · split at d <;> omega
end
