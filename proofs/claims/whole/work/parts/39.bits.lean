section
variable {M : MD} {R : Room} {Q : PQ} {K K1 : KT} {P P1 : PT} {J I J1 I1 : IT} {cs n pc pc' j : Nat} {L : List (Nat × AV)} {S St as : List AV} {My : MD} {Ry : Room} {Qy : PQ} {x : Bool}
theorem VW.cVq {o ci n0 k : Nat} {T : u_T} {N : Nat} (d : decode M.2.1 pc = .ok (.invokevirtual j, 3)) (hp : pc + 3 = pc') (hm : MV My k) (hl : Cond.methodLink M.1.cls j My.1 ∈ TB) (hc : classes[ci]? = some (My.1.cls, T, N)) (ho : K o = some (ci, n0)) (h8 : Nat.ble (sl S) 8 = true) (hR1 : Nat.ble (Ry.frames + 1) R.frames = true) (hR2 : Nat.ble (8 + (My.2.2.1 + 11) + Ry.locals) R.locals = true) (hcs : cs + Ry.cells ≤ R.cells) (hn : n + Ry.slots ≤ R.slots) (hs : Sp My false Ry Qy K P J I (vR (some o) :: as)) (hst : St = as.reverse ++ vR (some o) :: S) (hk : as.length = k)
    (kk : ∀ (r : Option AV) (K' : KT) (P' : PT) (J' I' : IT), Qy (.inl r) K' P' J' I' → VW M x R Q K' P' J' I' (cs + Ry.cells) (n + Ry.slots) pc' L (r.toList ++ S)) : VW M x R Q K P J I cs n pc L St :=
  VW.callV d hp hs hst hm.1 hm.2.1 hk hm.2.2.1 hm.2.2.2 hl hc ho h8 hR1 hR2 hcs hn kk
theorem VW.cSq {k : Nat} (d : decode M.2.1 pc = .ok (.invokestatic j, 3)) (hp : pc + 3 = pc') (hm : MS My k) (hl : Cond.methodLink M.1.cls j My.1 ∈ TB) (h8 : Nat.ble (sl S) 8 = true) (hR1 : Nat.ble (Ry.frames + 1) R.frames = true) (hR2 : Nat.ble (8 + (My.2.2.1 + 11) + Ry.locals) R.locals = true) (hcs : cs + Ry.cells ≤ R.cells) (hn : n + Ry.slots ≤ R.slots) (hs : Sp My false Ry Qy K P J I as) (hst : St = as.reverse ++ S) (hk : as.length = k)
    (kk : ∀ (r : Option AV) (K' : KT) (P' : PT) (J' I' : IT), Qy (.inl r) K' P' J' I' → VW M x R Q K' P' J' I' (cs + Ry.cells) (n + Ry.slots) pc' L (r.toList ++ S)) : VW M x R Q K P J I cs n pc L St :=
  VW.callS d hp hs hst hm.1 hm.2.1 hk hm.2.2 hl h8 hR1 hR2 hcs hn kk
theorem VW.cIq {o k : Nat} (d : decode M.2.1 pc = .ok (.invokespecial j, 3)) (hp : pc + 3 = pc') (hm : MI My k) (hl : Cond.methodLink M.1.cls j My.1 ∈ TB) (h8 : Nat.ble (sl S) 8 = true) (hR1 : Nat.ble (Ry.frames + 1) R.frames = true) (hR2 : Nat.ble (8 + (My.2.2.1 + 11) + Ry.locals) R.locals = true) (hcs : cs + Ry.cells ≤ R.cells) (hn : n + Ry.slots ≤ R.slots) (hs : Sp My false Ry Qy K P J I (vR (some o) :: as)) (hst : St = as.reverse ++ vR (some o) :: S) (hk : as.length = k)
    (kk : ∀ (r : Option AV) (K' : KT) (P' : PT) (J' I' : IT), Qy (.inl r) K' P' J' I' → VW M x R Q K' P' J' I' (cs + Ry.cells) (n + Ry.slots) pc' L (r.toList ++ S)) : VW M x R Q K P J I cs n pc L St :=
  VW.callI d hp hs hst hm.1 hm.2.1 hk hm.2.2.1 hm.2.2.2.1 hm.2.2.2.2 hl h8 hR1 hR2 hcs hn kk
end
theorem b31 : ∀ b : Fin 32, ((Int32.ofInt (b.val : Int) &&& 31).toBitVec.smod 32) = BitVec.ofNat 32 b.val := by decide +kernel
theorem bv31 (b : Int) (h0 : 0 ≤ b) (h1 : b < 32) : ((Int32.ofInt b &&& 31).toBitVec.smod 32) = BitVec.ofNat 32 b.toNat := by
  have := b31 ⟨b.toNat, by omega⟩
  rw [show ((⟨b.toNat, by omega⟩ : Fin 32).val : Int) = b by show (b.toNat : Int) = b; omega] at this
  exact this
theorem divR {a p : Int} (hp : 0 < p) (ha : inR a) : inR (a / p) := by
  have h1 := Int.mul_ediv_self_le (x := a) (k := p) (by omega)
  have h2 := Int.lt_mul_ediv_self_add (x := a) hp
  by_cases h : 0 ≤ a / p
  · have := Int.mul_le_mul_of_nonneg_right (show 1 ≤ p by omega) h
    omega
  · have := Int.mul_le_mul_of_nonpos_right (show 1 ≤ p by omega) (show a / p + 1 ≤ 0 by omega)
    rw [Int.mul_add] at this
    omega
theorem ishr32 {a b : Int} (ha : inR a) (h0 : 0 ≤ b) (h1 : b < 32) : Int32.ofInt a >>> (Int32.ofInt b &&& 31) = Int32.ofInt (a / 2 ^ b.toNat) := by
  apply Int32.toBitVec_inj.1
  rw [Int32.toBitVec_shiftRight, bv31 b h0 h1, Int32.toBitVec_ofInt, Int32.toBitVec_ofInt]
  apply BitVec.eq_of_toInt_eq
  rw [BitVec.sshiftRight', BitVec.toInt_sshiftRight, BitVec.toInt_ofInt, BitVec.toInt_ofInt, Int.shiftRight_eq_div_pow, BitVec.toNat_ofNat, Nat.mod_eq_of_lt (by omega)]
  have hp : (0 : Int) < 2 ^ b.toNat := Int.pow_pos (by decide)
  have r := divR hp ha
  rw [Int.bmod_eq_of_le (n := a) (by omega) (by omega), Int.bmod_eq_of_le (n := a / 2 ^ b.toNat) (by omega) (by omega)]
  simp
theorem iand32 {a : Int} {m : Nat} (h0 : 0 ≤ a) (h1 : a ≤ 2147483647) (hm : m < 31) : Int32.ofInt a &&& Int32.ofInt ((2 ^ m - 1 : Nat) : Int) = Int32.ofInt (a % ((2 ^ m : Nat) : Int)) := by
  apply Int32.toBitVec_inj.1
  rw [Int32.toBitVec_and, Int32.toBitVec_ofInt, Int32.toBitVec_ofInt, Int32.toBitVec_ofInt]
  obtain ⟨n, rfl⟩ := Int.eq_ofNat_of_zero_le h0
  have hp : (2 : Nat) ^ m ≤ 2 ^ 30 := Nat.pow_le_pow_right (by decide) (by omega)
  have hp2 : 0 < (2 : Nat) ^ m := Nat.pow_pos (by decide)
  apply BitVec.eq_of_toNat_eq
  rw [← Int.natCast_emod, BitVec.toNat_and, BitVec.ofInt_natCast, BitVec.ofInt_natCast, BitVec.ofInt_natCast, BitVec.toNat_ofNat, BitVec.toNat_ofNat, BitVec.toNat_ofNat, Nat.mod_eq_of_lt (a := n) (by omega), Nat.mod_eq_of_lt (a := 2 ^ m - 1) (by omega), Nat.and_two_pow_sub_one_eq_mod]
  have := Nat.mod_lt n hp2
  exact (Nat.mod_eq_of_lt (by omega)).symm
theorem iand1 {a : Int} (h0 : 0 ≤ a) (h1 : a ≤ 2147483647) : Int32.ofInt a &&& Int32.ofInt 1 = Int32.ofInt (a % 2) := iand32 (m := 1) h0 h1 (by decide)
theorem iand3 {a : Int} (h0 : 0 ≤ a) (h1 : a ≤ 2147483647) : Int32.ofInt a &&& Int32.ofInt 3 = Int32.ofInt (a % 4) := iand32 (m := 2) h0 h1 (by decide)
theorem shl1 : ∀ b : Fin 31, Int32.ofInt 1 <<< (Int32.ofInt (b.val : Int) &&& 31) = Int32.ofInt ((2 ^ b.val : Nat) : Int) := by decide +kernel
theorem ishl1 {b : Int} (h0 : 0 ≤ b) (h1 : b < 31) : Int32.ofInt 1 <<< (Int32.ofInt b &&& 31) = Int32.ofInt (2 ^ b.toNat) := by
  have := shl1 ⟨b.toNat, by omega⟩
  rw [show ((⟨b.toNat, by omega⟩ : Fin 31).val : Int) = b by show (b.toNat : Int) = b; omega] at this
  rw [this]; simp
/-- a set of bits with one more -/
def orB (a k : Int) : Int := if a / 2 ^ k.toNat % 2 = 1 then a else a + 2 ^ k.toNat
theorem or64 : ∀ (a : Fin 64) (k : Fin 6), Int32.ofInt (a.val : Int) ||| Int32.ofInt (2 ^ k.val) = Int32.ofInt (orB (a.val : Int) (k.val : Int)) := by decide +kernel
theorem ior64 {a k : Int} (h0 : 0 ≤ a) (h1 : a < 64) (h2 : 0 ≤ k) (h3 : k < 6) : Int32.ofInt a ||| Int32.ofInt (2 ^ k.toNat) = Int32.ofInt (orB a k) := by
  have := or64 ⟨a.toNat, by omega⟩ ⟨k.toNat, by omega⟩
  rw [show ((⟨a.toNat, by omega⟩ : Fin 64).val : Int) = a by show (a.toNat : Int) = a; omega, show ((⟨k.toNat, by omega⟩ : Fin 6).val : Int) = k by show (k.toNat : Int) = k; omega] at this
  exact this
theorem orB64 : ∀ (a : Fin 64) (k : Fin 6), 0 ≤ orB (a.val : Int) (k.val : Int) ∧ orB (a.val : Int) (k.val : Int) < 64 := by decide +kernel

