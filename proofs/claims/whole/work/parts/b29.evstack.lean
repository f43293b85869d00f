/-! queries: what stands on the stack: widths, number of rows, weight -/
section
abbrev WST : Type := List (Nat × Nat)
/-- widths and numbers of scans behind an operator -/
def ws1 (col : Int → Int) (op A : Int) (st : WST) : WST :=
  if op = 0 then ((col A).toNat, 1) :: st else match st with
  | [] => []
  | e :: rest => if op ≤ 3 then e :: rest else if op = 5 then (wk A e.1, e.2) :: rest else if op = 6 then (2, e.2) :: rest
    else match rest with
      | [] => []
      | d :: r2 => if op = 4 then ((if 2 < A then d.1 else d.1 + e.1), d.2 + e.2) :: r2 else (e.1, d.2 + e.2) :: r2
def wsT (S : IT) (x : Int) : Nat → WST
  | 0 => []
  | k + 1 => ws1 (S 201) (S 256 (x + k)) (S 257 (x + k)) (wsT S x k)
def wsZ : WST → Nat
  | [] => 0
  | e :: st => e.2 + wsZ st
def wsOK : WST → Prop
  | [] => True
  | e :: st => ((1 ≤ e.1 ∧ e.1 ≤ 10) ∧ 1 ≤ e.2) ∧ wsOK st
/-- an operator finds what it takes -/
def opV (S : IT) (op A B C : Int) (st : WST) : Prop :=
  (0 ≤ op ∧ op ≤ 7) ∧ (op = 0 → (0 ≤ A ∧ A < S 100 0) ∧ wsZ st ≤ 2) ∧
  (op ≠ 0 → op ≤ 3 → ∃ e rest, st = e :: rest ∧ opIn op A B C e.1) ∧
  (op = 4 → ∃ e d rest, st = e :: d :: rest ∧ (A ≤ 2 → d.1 + e.1 ≤ 10) ∧ (0 ≤ B ∧ B < d.1) ∧ (0 ≤ C ∧ C < e.1)) ∧
  (op = 5 → ∃ e rest, st = e :: rest ∧ 0 < A ∧ A < 2 ^ e.1) ∧
  (op = 6 → ∃ e rest, st = e :: rest ∧ (A = -1 ∨ (0 ≤ A ∧ A < e.1)) ∧ (B = 0 ∨ (0 ≤ C ∧ C < e.1)) ∧ 0 ≤ B ∧ B ≤ 3) ∧
  (op = 7 → ∃ e d rest, st = e :: d :: rest ∧ d.1 = e.1)
def QV (S : IT) (x : Int) (n : Nat) : Prop := n ≤ 12 ∧ ∀ k : Nat, k < n → opV S (S 256 (x + k)) (S 257 (x + k)) (S 258 (x + k)) (S 259 (x + k)) (wsT S x k)
theorem wsOK.len : ∀ {st : WST}, wsOK st → st.length ≤ wsZ st := by
  intro st
  induction st with
  | nil => intro _; exact Nat.le_refl _
  | cons e st ih =>
    intro h
    have := ih h.2
    have := h.1.2
    show st.length + 1 ≤ e.2 + wsZ st
    omega
theorem ws1_0 {col : Int → Int} {op A : Int} {st : WST} (h : op = 0) : ws1 col op A st = ((col A).toNat, 1) :: st := if_pos h
theorem ws1_f {col : Int → Int} {op A : Int} {e : Nat × Nat} {rest : WST} (h : op ≠ 0) (h2 : op ≤ 3) : ws1 col op A (e :: rest) = e :: rest := (if_neg h).trans (if_pos h2)
theorem ws1_k {col : Int → Int} {op A : Int} {e : Nat × Nat} {rest : WST} (h : op = 5) : ws1 col op A (e :: rest) = (wk A e.1, e.2) :: rest := (if_neg (by omega)).trans ((if_neg (by omega)).trans (if_pos h))
theorem ws1_g {col : Int → Int} {op A : Int} {e : Nat × Nat} {rest : WST} (h : op = 6) : ws1 col op A (e :: rest) = (2, e.2) :: rest := (if_neg (by omega)).trans ((if_neg (by omega)).trans ((if_neg (by omega)).trans (if_pos h)))
theorem ws1_j {col : Int → Int} {op A : Int} {e d : Nat × Nat} {rest : WST} (h : op = 4) : ws1 col op A (e :: d :: rest) = ((if 2 < A then d.1 else d.1 + e.1), d.2 + e.2) :: rest := (if_neg (by omega)).trans ((if_neg (by omega)).trans ((if_neg (by omega)).trans ((if_neg (by omega)).trans (if_pos h))))
theorem ws1_c {col : Int → Int} {op A : Int} {e d : Nat × Nat} {rest : WST} (h : op = 7) : ws1 col op A (e :: d :: rest) = (e.1, d.2 + e.2) :: rest := (if_neg (by omega)).trans ((if_neg (by omega)).trans ((if_neg (by omega)).trans ((if_neg (by omega)).trans (if_neg (by omega)))))
theorem wk_pos {s : Int} : ∀ w : Nat, 0 < s → s < 2 ^ w → 1 ≤ wk s w := by
  intro w
  induction w with
  | zero => intro h0 h1; rw [Int.pow_zero] at h1; omega
  | succ w ih =>
    intro h0 h1
    by_cases h : bitIn s w
    · rw [wk_yes h]; omega
    · rw [wk_no h]
      refine ih h0 ?_
      unfold bitIn at h
      rw [Int.pow_succ] at h1
      have p : (0 : Int) < 2 ^ w := Int.pow_pos (by decide)
      have d1 : 0 ≤ s / 2 ^ w := Int.ediv_nonneg (by omega) (by omega)
      have d2 : s / 2 ^ w < 2 := Int.ediv_lt_of_lt_mul p (by omega)
      have d3 : s / 2 ^ w < 1 := by omega
      have := (Int.ediv_lt_iff_lt_mul p).mp d3
      omega
theorem ws1_ok {S : IT} (hs : SSch S) {op A B C : Int} {st : WST} (h : wsOK st) (h3 : wsZ st ≤ 3) (hv : opV S op A B C st) : wsOK (ws1 (S 201) op A st) ∧ wsZ (ws1 (S 201) op A st) ≤ 3 := by
  obtain ⟨v0, v1, v2, v4, v5, v6, v7⟩ := hv
  by_cases e0 : op = 0
  · obtain ⟨a1, a2⟩ := v1 e0
    have c := hs.2.1 A a1.1 a1.2
    rw [ws1_0 e0]
    exact ⟨⟨⟨⟨by omega, by omega⟩, Nat.le_refl _⟩, h⟩, by show 1 + wsZ st ≤ 3; omega⟩
  · by_cases e3 : op ≤ 3
    · obtain ⟨e, rest, rfl, -⟩ := v2 e0 e3
      rw [ws1_f e0 e3]; exact ⟨h, h3⟩
    · by_cases e4 : op = 4
      · obtain ⟨e, d, rest, rfl, q1, q2, q3⟩ := v4 e4
        rw [ws1_j e4]
        have a := h.1
        have b := h.2.1
        have s3 : e.2 + (d.2 + wsZ rest) ≤ 3 := h3
        refine ⟨⟨⟨?_, by show 1 ≤ d.2 + e.2; omega⟩, h.2.2⟩, by show d.2 + e.2 + wsZ rest ≤ 3; omega⟩
        show 1 ≤ (if 2 < A then d.1 else d.1 + e.1) ∧ (if 2 < A then d.1 else d.1 + e.1) ≤ 10
        by_cases q : 2 < A
        · rw [if_pos q]; exact b.1
        · rw [if_neg q]; have := q1 (by omega); omega
      · by_cases e5 : op = 5
        · obtain ⟨e, rest, rfl, q1, q2⟩ := v5 e5
          rw [ws1_k e5]
          have a := h.1
          have p := wk_pos e.1 q1 q2
          have p2 := wk_le (s := A) e.1
          exact ⟨⟨⟨⟨p, by show wk A e.1 ≤ 10; omega⟩, a.2⟩, h.2⟩, h3⟩
        · by_cases e6 : op = 6
          · obtain ⟨e, rest, rfl, -⟩ := v6 e6
            rw [ws1_g e6]
            exact ⟨⟨⟨⟨by show 1 ≤ 2; omega, by show 2 ≤ 10; omega⟩, h.1.2⟩, h.2⟩, h3⟩
          · have e7 : op = 7 := by omega
            obtain ⟨e, d, rest, rfl, q1⟩ := v7 e7
            rw [ws1_c e7]
            have s3 : e.2 + (d.2 + wsZ rest) ≤ 3 := h3
            have := h.1.2
            exact ⟨⟨⟨h.1.1, by show 1 ≤ d.2 + e.2; omega⟩, h.2.2⟩, by show d.2 + e.2 + wsZ rest ≤ 3; omega⟩
theorem wsT_ok {S : IT} (hs : SSch S) {x : Int} {n : Nat} (h : QV S x n) : ∀ k : Nat, k ≤ n → wsOK (wsT S x k) ∧ wsZ (wsT S x k) ≤ 3 := by
  intro k
  induction k with
  | zero => intro _; exact ⟨trivial, Nat.zero_le _⟩
  | succ k ih =>
    intro hk
    obtain ⟨a, b⟩ := ih (by omega)
    exact ws1_ok hs a b (h.2 k (by omega))
def cap (s : Nat) : Int := if s ≤ 1 then 8000 else if s ≤ 2 then 200000 else 3000000
/-- what is on the stack is as wide, as long and as heavy as told -/
def EvS (b : Int) : STK → WST → Prop
  | [], [] => True
  | z :: st, e :: ws => (z.1 = e.1 ∧ (∀ r ∈ z.2, r.length = z.1) ∧ z.2.length ≤ 8 ^ e.2 ∧ tw z.2 ≤ cap e.2 + b) ∧ EvS b st ws
  | [], _ :: _ => False
  | _ :: _, [] => False
theorem EvS.up {b c : Int} (hb : b ≤ c) : ∀ {st : STK} {ws : WST}, EvS b st ws → EvS c st ws := by
  intro st
  induction st with
  | nil => intro ws h; cases ws with | nil => trivial | cons e ws => exact h
  | cons z st ih =>
    intro ws h
    cases ws with
    | nil => exact h
    | cons e ws => exact ⟨⟨h.1.1, h.1.2.1, h.1.2.2.1, by have := h.1.2.2.2; omega⟩, ih h.2⟩
theorem EvS.len {b : Int} : ∀ {st : STK} {ws : WST}, EvS b st ws → st.length = ws.length := by
  intro st
  induction st with
  | nil => intro ws h; cases ws with | nil => rfl | cons e ws => exact h.elim
  | cons z st ih =>
    intro ws h
    cases ws with
    | nil => exact h.elim
    | cons e ws => exact congrArg (· + 1) (ih h.2)
theorem EvS.one {b : Int} {st : STK} {e : Nat × Nat} {ws : WST} (h : EvS b st (e :: ws)) : ∃ z st', st = z :: st' ∧ (z.1 = e.1 ∧ (∀ r ∈ z.2, r.length = z.1) ∧ z.2.length ≤ 8 ^ e.2 ∧ tw z.2 ≤ cap e.2 + b) ∧ EvS b st' ws := by
  cases st with
  | nil => exact h.elim
  | cons z st' => exact ⟨z, st', rfl, h.1, h.2⟩
theorem pow8_le {s : Nat} (h : s ≤ 3) : 8 ^ s ≤ 512 := by
  have : (8 : Nat) ^ s ≤ 8 ^ 3 := Nat.pow_le_pow_right (by decide) h
  omega
theorem pow8_2 {s : Nat} (h : 1 ≤ s) : 2 ≤ 8 ^ s := by
  have : (8 : Nat) ^ 1 ≤ 8 ^ s := Nat.pow_le_pow_right (by decide) h
  omega
theorem EvS.stB {b : Int} : ∀ {st : STK} {ws : WST}, EvS b st ws → wsOK ws → wsZ ws ≤ 3 → stB st := by
  intro st
  induction st with
  | nil => intro ws _ _ _; trivial
  | cons z st ih =>
    intro ws h ho h3
    cases ws with
    | nil => exact h.elim
    | cons e ws =>
      have h3' : e.2 + wsZ ws ≤ 3 := h3
      have p := pow8_le (s := e.2) (by omega)
      exact ⟨⟨by rw [h.1.1]; exact ho.1.1.2, by have := h.1.2.2.1; omega⟩, ih h.2 ho.2 (by omega)⟩
theorem jRow_rows {how B C : Int} {wa wb : Nat} {R : List (List Int)} {x : List Int} (hx : x.length = wa) (hR : ∀ r ∈ R, r.length = wb) : ∀ r ∈ jRow how B C wb R x, r.length = if 2 < how then wa else wa + wb := by
  intro r hr
  have hn : (nul wb).length = wb := List.length_replicate
  unfold jRow at hr
  rcases List.mem_append.mp hr with h | h
  · unfold jM at h
    split at h
    · next e =>
      obtain ⟨y, hy, rfl⟩ := List.mem_map.mp h
      rw [if_neg (by omega), List.length_append, hx, hR y (mem_flt.mp hy).1]
    · cases h
  · unfold jT at h
    split at h
    · next e =>
      have : r = x := by first | exact List.mem_singleton.mp h | simpa using h
      rw [this, if_pos (by omega), hx]
    · split at h
      · next e1 e2 =>
        have : r = x ++ nul wb := by first | exact List.mem_singleton.mp h | simpa using h
        rw [this, if_neg (by omega), List.length_append, hx, hn]
      · cases h
theorem joinL_rows {how B C : Int} {wa wb : Nat} {L R : List (List Int)} (hL : ∀ r ∈ L, r.length = wa) (hR : ∀ r ∈ R, r.length = wb) : ∀ r ∈ joinL how B C wa wb L R, r.length = if 2 < how then wa else wa + wb := by
  intro r hr
  have hn : (nul wa).length = wa := List.length_replicate
  unfold joinL at hr
  rcases List.mem_append.mp hr with h | h
  · unfold jLeft at h
    obtain ⟨x, hx, h⟩ := List.mem_flatMap.mp h
    exact jRow_rows (hL x hx) hR r h
  · unfold jRight at h
    split at h
    · next e =>
      obtain ⟨y, hy, rfl⟩ := List.mem_map.mp h
      rw [if_neg (by omega), List.length_append, hn, hR y (mem_flt.mp hy).1]
    · cases h
theorem groupL_rows {how A C : Int} {L : List (List Int)} : ∀ r ∈ groupL how A C L, r.length = 2 := by
  intro r hr
  have := ((groups_set (how := how) (A := A) (C := C) L).2 r).mp hr
  rw [this.1]; rfl
theorem groupL_len2 {how A C : Int} {L : List (List Int)} {m : Nat} (h1 : 1 ≤ m) (hm : L.length ≤ m) : (groupL how A C L).length ≤ m := by
  by_cases hA : A = -1
  · have nd := (groups_set (how := how) (A := A) (C := C) L)
    have all : ∀ z ∈ (groupL how A C L).map (fun z => nth z 0), z ∈ [(-2147483648 : Int)] := by
      intro z hz
      obtain ⟨r, hr, rfl⟩ := List.mem_map.mp hz
      have k := ((nd.2 r).mp hr).2
      have : nth r 0 = -2147483648 := by
        rcases k with k | ⟨x, hx, k⟩
        · exact k.2
        · unfold keyOf at k; rw [if_pos hA] at k; exact k.symm
      rw [this]; exact List.mem_cons_self
    have := nd.1.length_le_of_subset (l₂ := [(-2147483648 : Int)]) all
    rw [List.length_map] at this
    have : [(-2147483648 : Int)].length = 1 := rfl
    omega
  · have := groupL_len (how := how) (A := A) (C := C) L (g0 how A)
    have e : g0 how A = [] := if_neg hA
    unfold groupL
    rw [e] at this ⊢
    have : ([] : List (List Int)).length = 0 := rfl
    omega
theorem cap_join {a b : Nat} {la lb : Nat} {ta tb c : Int} (ha : 1 ≤ a) (hb : 1 ≤ b) (h3 : a + b ≤ 3) (hla : la ≤ 8 ^ a) (hlb : lb ≤ 8 ^ b) (hta : ta ≤ cap a + c) (htb : tb ≤ cap b + c) (h0 : 0 ≤ ta ∧ 0 ≤ tb) (hc : 0 ≤ c ∧ c ≤ 12) : ((lb : Int) + 1) * ta + ((la : Int) + 1) * tb ≤ cap (a + b) + (c + 1) := by
  have q : ∀ (x y X Y : Int), 0 ≤ x → 0 ≤ y → x ≤ X → y ≤ Y → x * y ≤ X * Y := fun x y X Y x0 y0 h1 h2 => Int.le_trans (Int.mul_le_mul_of_nonneg_right h1 y0) (Int.mul_le_mul_of_nonneg_left h2 (by omega))
  have cases3 : (a = 1 ∧ b = 1) ∨ (a = 1 ∧ b = 2) ∨ (a = 2 ∧ b = 1) := by omega
  rcases cases3 with ⟨rfl, rfl⟩ | ⟨rfl, rfl⟩ | ⟨rfl, rfl⟩
  · have c1 : cap 1 = 8000 := rfl
    have c2 : cap (1 + 1) = 200000 := rfl
    rw [c1] at hta htb
    have p1 := q ((lb : Int) + 1) ta 9 8012 (by omega) h0.1 (by omega) (by omega)
    have p2 := q ((la : Int) + 1) tb 9 8012 (by omega) h0.2 (by omega) (by omega)
    omega
  · have c1 : cap 1 = 8000 := rfl
    have c2 : cap 2 = 200000 := rfl
    have c3 : cap (1 + 2) = 3000000 := rfl
    rw [c1] at hta
    rw [c2] at htb
    have p1 := q ((lb : Int) + 1) ta 65 8012 (by omega) h0.1 (by omega) (by omega)
    have p2 := q ((la : Int) + 1) tb 9 200012 (by omega) h0.2 (by omega) (by omega)
    omega
  · have c1 : cap 1 = 8000 := rfl
    have c2 : cap 2 = 200000 := rfl
    have c3 : cap (2 + 1) = 3000000 := rfl
    rw [c1] at htb
    rw [c2] at hta
    have p1 := q ((lb : Int) + 1) ta 9 200012 (by omega) h0.1 (by omega) (by omega)
    have p2 := q ((la : Int) + 1) tb 65 8012 (by omega) h0.2 (by omega) (by omega)
    omega
theorem cap_sum {a b : Nat} {c : Int} (ha : 1 ≤ a) (hb : 1 ≤ b) (h3 : a + b ≤ 3) (hc : 0 ≤ c ∧ c ≤ 12) : cap a + c + (cap b + c) ≤ cap (a + b) + (c + 1) := by
  have cases3 : (a = 1 ∧ b = 1) ∨ (a = 1 ∧ b = 2) ∨ (a = 2 ∧ b = 1) := by omega
  rcases cases3 with ⟨rfl, rfl⟩ | ⟨rfl, rfl⟩ | ⟨rfl, rfl⟩
  · have c1 : cap 1 = 8000 := rfl
    have c2 : cap (1 + 1) = 200000 := rfl
    omega
  · have c1 : cap 1 = 8000 := rfl
    have c2 : cap 2 = 200000 := rfl
    have c3 : cap (1 + 2) = 3000000 := rfl
    omega
  · have c1 : cap 1 = 8000 := rfl
    have c2 : cap 2 = 200000 := rfl
    have c3 : cap (2 + 1) = 3000000 := rfl
    omega
theorem EvS.step {S : IT} {b op A B C nt : Int} {st : STK} {ws : WST} {sc : Int → Nat × List (List Int)} (hb : 0 ≤ b ∧ b ≤ 12) (h : EvS b st ws) (hw : wsOK ws) (h3 : wsZ ws ≤ 3) (hv : opV S op A B C ws)
    (hsc : op = 0 → (sc A).1 = (S 201 A).toNat ∧ (∀ r ∈ (sc A).2, r.length = (sc A).1) ∧ (sc A).2.length ≤ 8 ∧ tw (sc A).2 ≤ 8000) : EvS (b + 1) (ev1 sc op A B C nt st) (ws1 (S 201) op A ws) := by
  obtain ⟨v0, v1, v2, v4, v5, v6, v7⟩ := hv
  have hu := h.up (show b ≤ b + 1 by omega)
  by_cases e0 : op = 0
  · obtain ⟨s1, s2, s3, s4⟩ := hsc e0
    rw [ev1_0 e0, ws1_0 e0]
    exact ⟨⟨s1, s2, by show _ ≤ 8 ^ 1; omega, by have : cap 1 = 8000 := rfl; show _ ≤ cap 1 + (b + 1); omega⟩, hu⟩
  · by_cases e3 : op ≤ 3
    · obtain ⟨e, rest, rfl, -⟩ := v2 e0 e3
      obtain ⟨z, st', rfl, ⟨q1, q2, q3, q4⟩, q5⟩ := h.one
      rw [ev1_f e0 e3, ws1_f e0 e3]
      have t := tw_sub (flt_sub (p := stayP op A B C nt) z.2)
      have l := (flt_sub (p := stayP op A B C nt) z.2).length_le
      exact ⟨⟨q1, fun r hr => q2 r (mem_flt.mp hr).1, by show (flt _ z.2).length ≤ _; omega, by show tw (flt _ z.2) ≤ _; omega⟩, q5.up (by omega)⟩
    · by_cases e4 : op = 4
      · obtain ⟨e, d, rest, rfl, -⟩ := v4 e4
        obtain ⟨z, st', rfl, ⟨q1, q2, q3, q4⟩, q5⟩ := h.one
        obtain ⟨y, st'', rfl, ⟨p1, p2, p3, p4⟩, p5⟩ := q5.one
        rw [ev1_j e4, ws1_j e4]
        have s3 : e.2 + (d.2 + wsZ rest) ≤ 3 := h3
        have w1 := hw.1.2
        have w2 := hw.2.1.2
        have l := joinL_len (how := A) (B := B) (C := C) (wa := y.1) (wb := z.1) p3 q3 (pow8_2 w2) (pow8_2 w1)
        have t := tw_joinL (how := A) (B := B) (C := C) (wa := y.1) (wb := z.1) (L := y.2) (R := z.2)
        have t2 := cap_join w2 w1 (by omega) p3 q3 p4 q4 ⟨tw_nn _, tw_nn _⟩ hb
        refine ⟨⟨?_, joinL_rows p2 q2, ?_, ?_⟩, p5.up (by omega)⟩
        · show (if 2 < A then y.1 else y.1 + z.1) = (if 2 < A then d.1 else d.1 + e.1)
          rw [p1, q1]
        · show (joinL A B C y.1 z.1 y.2 z.2).length ≤ 8 ^ (d.2 + e.2)
          rw [Nat.pow_add]; exact l
        · show tw (joinL A B C y.1 z.1 y.2 z.2) ≤ cap (d.2 + e.2) + (b + 1)
          omega
      · by_cases e5 : op = 5
        · obtain ⟨e, rest, rfl, -⟩ := v5 e5
          obtain ⟨z, st', rfl, ⟨q1, q2, q3, q4⟩, q5⟩ := h.one
          rw [ev1_k e5, ws1_k e5]
          have t := tw_keepL (s := A) (w := z.1) (L := z.2)
          refine ⟨⟨by show wk A z.1 = wk A e.1; rw [q1], fun r hr => ?_, ?_, by show tw (keepL A z.1 z.2) ≤ cap e.2 + (b + 1); omega⟩, q5.up (by omega)⟩
          · obtain ⟨r', _, rfl⟩ := List.mem_map.mp hr
            exact keepR_len
          · show (keepL A z.1 z.2).length ≤ _
            unfold keepL
            rw [List.length_map]; exact q3
        · by_cases e6 : op = 6
          · obtain ⟨e, rest, rfl, -⟩ := v6 e6
            obtain ⟨z, st', rfl, ⟨q1, q2, q3, q4⟩, q5⟩ := h.one
            rw [ev1_g e6, ws1_g e6]
            have t := (groupL_w (how := B) (A := A) (C := C) z.2).1
            exact ⟨⟨rfl, groupL_rows, groupL_len2 (by show 1 ≤ 8 ^ e.2; have := pow8_2 hw.1.2; omega) q3, by show tw (groupL B A C z.2) ≤ cap e.2 + (b + 1); omega⟩, q5.up (by omega)⟩
          · have e7 : op = 7 := by omega
            obtain ⟨e, d, rest, rfl, w⟩ := v7 e7
            obtain ⟨z, st', rfl, ⟨q1, q2, q3, q4⟩, q5⟩ := h.one
            obtain ⟨y, st'', rfl, ⟨p1, p2, p3, p4⟩, p5⟩ := q5.one
            rw [ev1_c (by omega) e4 e5 e6, ws1_c e7]
            have s3 : e.2 + (d.2 + wsZ rest) ≤ 3 := h3
            have w1 := hw.1.2
            have w2 := hw.2.1.2
            have l := cmbL_len (how := A) (L := y.2) (R := z.2)
            have t := tw_cmbL (how := A) (L := y.2) (R := z.2)
            have t2 := cap_sum (c := b) w2 w1 (by omega) hb
            refine ⟨⟨q1, fun r hr => ?_, ?_, ?_⟩, p5.up (by omega)⟩
            · rcases mem_cmb.mp hr with k | k
              · show r.length = z.1; rw [p2 r k.1, p1, w, q1]
              · exact q2 r k.2
            · show (cmbL A y.2 z.2).length ≤ 8 ^ (d.2 + e.2)
              have a2 := pow8_2 w2
              have a1 := pow8_2 w1
              have h1 : 8 ^ d.2 * 2 ≤ 8 ^ d.2 * 8 ^ e.2 := Nat.mul_le_mul_left _ a1
              have h2 : 2 * 8 ^ e.2 ≤ 8 ^ d.2 * 8 ^ e.2 := Nat.mul_le_mul_right _ a2
              rw [Nat.pow_add]
              omega
            · show tw (cmbL A y.2 z.2) ≤ cap (d.2 + e.2) + (b + 1)
              omega
end
