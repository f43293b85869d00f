/-! the class's lasting things: their names, what they are, what they hold -/
def KCL : List (Nat × Nat × Nat) := [(1000, 10, 0), (1009, 100, 4), (1032, 7, 0), (1034, 100, 6), (1035, 100, 6), (1036, 100, 72), (1037, 100, 24), (1038, 100, 24), (1040, 100, 60), (1064, 0, 0), (1069, 100, 12006), (1070, 100, 12006), (1071, 100, 6), (1096, 9, 0), (1099, 101, 48), (1100, 101, 48), (1101, 100, 192), (1102, 100, 48), (1103, 100, 48), (1128, 6, 0), (1129, 100, 192), (1160, 6, 0), (1161, 100, 192), (1192, 2, 0), (1196, 101, 60), (1197, 101, 60), (1224, 1, 0), (1226, 103, 4), (1227, 100, 512), (1228, 100, 512), (1229, 101, 512), (1256, 5, 0), (1257, 100, 5120), (1288, 5, 0), (1289, 100, 5120), (1320, 5, 0), (1321, 100, 5120), (1352, 5, 0), (1353, 100, 5120), (1384, 3, 0), (1385, 100, 6), (1386, 100, 24), (1387, 101, 12), (1388, 100, 12), (1390, 100, 3), (1391, 101, 3), (1392, 100, 10), (1393, 100, 10), (1395, 100, 12), (1396, 100, 12), (1397, 100, 3), (1416, 5, 0), (1417, 100, 5120), (1448, 12, 0), (1480, 12, 0), (1512, 12, 0), (1544, 12, 0)]
def PCL : List (Nat × Nat × Nat) := [(1000, 0, 1032), (1000, 1, 1064), (1000, 2, 1224), (1000, 3, 1384), (1000, 4, 1480), (1000, 5, 1512), (1000, 6, 1544), (1000, 7, 1416), (1000, 8, 1009), (1032, 1, 1034), (1032, 2, 1035), (1032, 3, 1036), (1032, 4, 1037), (1032, 5, 1038), (1032, 7, 1040), (1064, 0, 1096), (1064, 1, 1160), (1064, 2, 1448), (1064, 3, 1192), (1064, 4, 1069), (1064, 5, 1070), (1064, 6, 1071), (1096, 0, 1032), (1096, 1, 1128), (1096, 2, 1099), (1096, 3, 1100), (1096, 4, 1101), (1096, 5, 1102), (1096, 6, 1103), (1128, 0, 1129), (1160, 0, 1161), (1192, 3, 1196), (1192, 4, 1197), (1224, 0, 1032), (1224, 1, 1226), (1224, 2, 1227), (1224, 3, 1228), (1224, 4, 1229), (1256, 0, 1257), (1288, 0, 1289), (1320, 0, 1321), (1352, 0, 1353), (1384, 0, 1385), (1384, 1, 1386), (1384, 2, 1387), (1384, 3, 1388), (1384, 5, 1390), (1384, 6, 1391), (1384, 7, 1392), (1384, 8, 1393), (1384, 10, 1395), (1384, 11, 1396), (1384, 12, 1397), (1416, 0, 1417)]
/-- the class's shape -/
def ClW (K : KT) (P : PT) : Prop := (∀ x ∈ KCL, K x.1 = some x.2) ∧ ∀ x ∈ PCL, P x.1 (x.2.1 : Int) = some x.2.2
def cnK (o : Nat) : Bool := KCL.any (fun x => Nat.beq x.1 o)
def cnP (o : Nat) : Bool := PCL.any (fun x => Nat.beq x.1 o)
theorem cn_K {x : Nat × Nat × Nat} (h : x ∈ KCL) : cnK x.1 = true := List.any_eq_true.mpr ⟨x, h, Nat.beq_refl _⟩
theorem cn_P {x : Nat × Nat × Nat} (h : x ∈ PCL) : cnP x.1 = true := List.any_eq_true.mpr ⟨x, h, Nat.beq_refl _⟩
theorem cn_PK : PCL.all (fun x => cnK x.1) = true := by decide
section
variable {K : KT} {P : PT} {J I : IT}
theorem ClW.k (h : ClW K P) {o a b : Nat} (i : Nat) (hi : KCL[i]? = some (o, a, b)) : K o = some (a, b) := h.1 _ (List.mem_of_getElem? hi)
theorem ClW.p (h : ClW K P) {o k q : Nat} (i : Nat) (hi : PCL[i]? = some (o, k, q)) : P o (k : Int) = some q := h.2 _ (List.mem_of_getElem? hi)
theorem ClW.fr {K' : KT} {P' : PT} (h : ClW K P) (hk : ∀ o, cnK o = true → K' o = K o) (hp : ∀ o, cnP o = true → P' o = P o) : ClW K' P' := ⟨fun x hx => (hk _ (cn_K hx)).trans (h.1 x hx), fun x hx => by rw [hp _ (cn_P hx)]; exact h.2 x hx⟩
theorem ClW.sc (hC : ClW K P) : ScW K P 1032 1034 1035 1036 1037 1038 1040 := ⟨hC.k 2 rfl, ⟨hC.p 9 rfl, hC.k 3 rfl⟩, ⟨hC.p 10 rfl, hC.k 4 rfl⟩, ⟨hC.p 11 rfl, hC.k 5 rfl⟩, ⟨hC.p 12 rfl, hC.k 6 rfl⟩, ⟨hC.p 13 rfl, hC.k 7 rfl⟩, ⟨hC.p 14 rfl, hC.k 8 rfl⟩⟩
theorem ClW.af (hC : ClW K P) : RwW K P 1128 1129 := ⟨hC.k 19 rfl, hC.p 29 rfl, hC.k 20 rfl⟩
theorem ClW.st (hC : ClW K P) : RwW K P 1160 1161 := ⟨hC.k 21 rfl, hC.p 30 rfl, hC.k 22 rfl⟩
theorem mk_kF (h0 : K 1000 = some (10, 0)) (x : Nat × Nat × Nat) (hx : x ∈ KCL) : kFm K P x.1 = some x.2 := by
  unfold KCL at hx
  simp only [List.mem_cons, List.not_mem_nil, or_false] at hx
  rcases hx with rfl | rfl | rfl | rfl | rfl | rfl | rfl | rfl | rfl | rfl | rfl | rfl | rfl | rfl | rfl | rfl | rfl | rfl | rfl | rfl | rfl | rfl | rfl | rfl | rfl | rfl | rfl | rfl | rfl | rfl | rfl | rfl | rfl | rfl | rfl | rfl | rfl | rfl | rfl | rfl | rfl | rfl | rfl | rfl | rfl | rfl | rfl | rfl | rfl | rfl | rfl | rfl | rfl | rfl | rfl | rfl | rfl
  · exact h0
  all_goals rfl
theorem mk_pF (x : Nat × Nat × Nat) (hx : x ∈ PCL) : pFm K P x.1 (x.2.1 : Int) = some x.2.2 := by
  unfold PCL at hx
  simp only [List.mem_cons, List.not_mem_nil, or_false] at hx
  rcases hx with rfl | rfl | rfl | rfl | rfl | rfl | rfl | rfl | rfl | rfl | rfl | rfl | rfl | rfl | rfl | rfl | rfl | rfl | rfl | rfl | rfl | rfl | rfl | rfl | rfl | rfl | rfl | rfl | rfl | rfl | rfl | rfl | rfl | rfl | rfl | rfl | rfl | rfl | rfl | rfl | rfl | rfl | rfl | rfl | rfl | rfl | rfl | rfl | rfl | rfl | rfl | rfl | rfl | rfl
  all_goals rfl
theorem ClW.made (h0 : K 1000 = some (10, 0)) : ClW (kFm K P) (pFm K P) := ⟨fun x hx => mk_kF h0 x hx, fun x hx => mk_pF x hx⟩
end
