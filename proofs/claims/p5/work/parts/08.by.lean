/-! the four letters that a number brings to the tape -/
def btN (v : Int32) (i : Nat) : Nat := v.toBitVec.toNat / 2 ^ (24 - 8 * i) % 256
theorem bt_lt (v : Int32) (i : Nat) : btN v i < 256 := Nat.mod_lt _ (by decide)
theorem t8_of (x : Int32) : x.toInt8 = Int8.ofBitVec (BitVec.ofNat 8 (x.toBitVec.toNat % 256)) := by
  apply Int8.toBitVec_inj.mp
  rw [Int32.toBitVec_toInt8, BitVec.signExtend_eq_setWidth_of_le _ (by decide)]
  apply BitVec.eq_of_toNat_eq
  rw [BitVec.toNat_setWidth]
  show _ = (BitVec.ofNat 8 (x.toBitVec.toNat % 256)).toNat
  rw [BitVec.toNat_ofNat]
  omega
theorem bc_tab : ∀ m : Nat, m < 256 → vp_nar .byte ((Int8.ofBitVec (BitVec.ofNat 8 m)).toInt32) = sbI m := by decide +kernel
theorem bc_put {v y : Int32} {i : Nat} (hy : (y.toUInt32 &&& Int32.toUInt32 31).toNat % 32 = 24 - 8 * i) : vp_nar .byte ((Int32.toInt8 ((Int32.toUInt32 v >>> (y.toUInt32 &&& Int32.toUInt32 31)).toInt32)).toInt32) = sbI (btN v i) := by
  rw [t8_of, bc_tab _ (Nat.mod_lt _ (by decide))]
  have e : (Int32.toUInt32 v >>> (y.toUInt32 &&& Int32.toUInt32 31)).toInt32.toBitVec.toNat = v.toBitVec.toNat / 2 ^ (24 - 8 * i) := by
    show (Int32.toUInt32 v >>> (y.toUInt32 &&& Int32.toUInt32 31)).toNat = _
    rw [UInt32.toNat_shiftRight, hy, Nat.shiftRight_eq_div_pow]
    rfl
  rw [e]
  rfl
theorem bm_get {v y : Int32} {d : Nat} (hy : (y.toBitVec.smod 32).toNat = d) (hd : d = 24 ∨ d = 16 ∨ d = 8 ∨ d = 0) : (v >>> y) &&& 255 = nI (v.toBitVec.toNat / 2 ^ d % 256) := by
  apply Int32.toBitVec_inj.mp
  apply BitVec.eq_of_toNat_eq
  rw [Int32.toBitVec_and, BitVec.toNat_and]
  have e : (v >>> y).toBitVec.toNat = (v.toBitVec.sshiftRight d).toNat := by rw [← hy]; rfl
  have e2 : (255 : Int32).toBitVec.toNat = 2 ^ 8 - 1 := by decide
  have e3 : (nI (v.toBitVec.toNat / 2 ^ d % 256)).toBitVec.toNat = v.toBitVec.toNat / 2 ^ d % 256 := by
    show (BitVec.ofNat 32 (v.toBitVec.toNat / 2 ^ d % 256)).toNat = _
    rw [BitVec.toNat_ofNat]
    have := Nat.mod_lt (v.toBitVec.toNat / 2 ^ d) (by decide : 256 > 0)
    omega
  rw [e, e2, e3, Nat.and_two_pow_sub_one_eq_mod, BitVec.toNat_sshiftRight]
  have hv := v.toBitVec.isLt
  simp only [Nat.shiftRight_eq_div_pow]
  split
  · rename_i hm
    rcases hd with rfl | rfl | rfl | rfl <;> omega
  · rfl
/-- four letters more -/
def ptT (f : Nat → Int32) (k : Nat) (v : Int32) : Nat → Int32 := upd (upd (upd (upd f k (sbI (btN v 0))) (k + 1) (sbI (btN v 1))) (k + 1 + 1) (sbI (btN v 2))) (k + 1 + 1 + 1) (sbI (btN v 3))
def pnT (T : Nat → Nat) (k : Nat) (v : Int32) : Nat → Nat := fun j => if j < k then T j else btN v (j - k)
theorem pt_ok {T : Nat → Nat} {f : Nat → Int32} {k : Nat} {v : Int32} (h : ∀ j, j < k → T j < 256 ∧ f j = sbI (T j)) : ∀ j, j < k + 4 → pnT T k v j < 256 ∧ ptT f k v j = sbI (pnT T k v j) := by
  intro j hj
  unfold pnT ptT upd
  rcases Nat.lt_or_ge j k with q | q
  · rw [if_pos q, if_neg (by omega), if_neg (by omega), if_neg (by omega), if_neg (by omega)]
    exact h j q
  · rw [if_neg (by omega)]
    refine ⟨bt_lt _ _, ?_⟩
    rcases (show j = k ∨ j = k + 1 ∨ j = k + 1 + 1 ∨ j = k + 1 + 1 + 1 by omega) with e | e | e | e
    · rw [if_neg (by omega), if_neg (by omega), if_neg (by omega), if_pos e, show j - k = 0 by omega]
    · rw [if_neg (by omega), if_neg (by omega), if_pos e, show j - k = 1 by omega]
    · rw [if_neg (by omega), if_pos e, show j - k = 2 by omega]
    · rw [if_pos e, show j - k = 3 by omega]
/-- twenty letters more -/
def ptT5 (f : Nat → Int32) (k : Nat) (v1 v2 v3 v4 v5 : Int32) : Nat → Int32 := ptT (ptT (ptT (ptT (ptT f k v1) (k + 4) v2) (k + 4 + 4) v3) (k + 4 + 4 + 4) v4) (k + 4 + 4 + 4 + 4) v5
def pnT5 (T : Nat → Nat) (k : Nat) (v1 v2 v3 v4 v5 : Int32) : Nat → Nat := pnT (pnT (pnT (pnT (pnT T k v1) (k + 4) v2) (k + 4 + 4) v3) (k + 4 + 4 + 4) v4) (k + 4 + 4 + 4 + 4) v5
theorem pt_ok5 {T : Nat → Nat} {f : Nat → Int32} {k : Nat} {v1 v2 v3 v4 v5 : Int32} (h : ∀ j, j < k → T j < 256 ∧ f j = sbI (T j)) : ∀ j, j < k + 20 → pnT5 T k v1 v2 v3 v4 v5 j < 256 ∧ ptT5 f k v1 v2 v3 v4 v5 j = sbI (pnT5 T k v1 v2 v3 v4 v5 j) := fun j hj => pt_ok (pt_ok (pt_ok (pt_ok (pt_ok h)))) j (by omega)
section FM
variable {T : Nat → Nat} {k j : Nat} {v1 v2 v3 v4 v5 : Int32}
theorem pn_0 (h : j < k) : pnT5 T k v1 v2 v3 v4 v5 j = T j := by
  unfold pnT5 pnT
  rw [if_pos (by omega), if_pos (by omega), if_pos (by omega), if_pos (by omega), if_pos (by omega)]
theorem pn_lt (h : ∀ j, j < k → T j < 256) (hj : j < k + 20) : pnT5 T k v1 v2 v3 v4 v5 j < 256 := by
  unfold pnT5 pnT
  (repeat' split) <;> first | exact bt_lt _ _ | exact h j (by omega)
theorem sh_tab : ∀ j : Nat, j < 20 → (((24 - (8 * ((nI j) - (nI j) / 4 * 4))) &&& 31 : Int32).toBitVec.smod 32).toNat = 24 - 8 * (j % 4) := by decide +kernel
theorem fm_v {v : Int32} {i : Nat} (hj : j < 20) (hi : j % 4 = i) : (v >>> ((24 - (8 * ((nI j) - (nI j) / 4 * 4))) &&& 31)) &&& 255 = nI (btN v i) := by
  have h := sh_tab j hj
  rw [hi] at h
  exact bm_get h (by omega)
theorem fm_1 (h1 : 0 ≤ j) (h2 : j < 4) : (v1 >>> ((24 - (8 * ((nI j) - (nI j) / 4 * 4))) &&& 31)) &&& 255 = nI (pnT5 T k v1 v2 v3 v4 v5 (k + j)) := by
  have e : pnT5 T k v1 v2 v3 v4 v5 (k + j) = btN v1 (k + j - k) := by
    unfold pnT5 pnT
    rw [if_pos (by omega), if_pos (by omega), if_pos (by omega), if_pos (by omega), if_neg (by omega)]
  rw [e]
  exact fm_v (by omega) (by omega)
theorem fm_2 (h1 : 4 ≤ j) (h2 : j < 8) : (v2 >>> ((24 - (8 * ((nI j) - (nI j) / 4 * 4))) &&& 31)) &&& 255 = nI (pnT5 T k v1 v2 v3 v4 v5 (k + j)) := by
  have e : pnT5 T k v1 v2 v3 v4 v5 (k + j) = btN v2 (k + j - (k + 4)) := by
    unfold pnT5 pnT
    rw [if_pos (by omega), if_pos (by omega), if_pos (by omega), if_neg (by omega)]
  rw [e]
  exact fm_v (by omega) (by omega)
theorem fm_3 (h1 : 8 ≤ j) (h2 : j < 12) : (v3 >>> ((24 - (8 * ((nI j) - (nI j) / 4 * 4))) &&& 31)) &&& 255 = nI (pnT5 T k v1 v2 v3 v4 v5 (k + j)) := by
  have e : pnT5 T k v1 v2 v3 v4 v5 (k + j) = btN v3 (k + j - (k + 4 + 4)) := by
    unfold pnT5 pnT
    rw [if_pos (by omega), if_pos (by omega), if_neg (by omega)]
  rw [e]
  exact fm_v (by omega) (by omega)
theorem fm_4 (h1 : 12 ≤ j) (h2 : j < 16) : (v4 >>> ((24 - (8 * ((nI j) - (nI j) / 4 * 4))) &&& 31)) &&& 255 = nI (pnT5 T k v1 v2 v3 v4 v5 (k + j)) := by
  have e : pnT5 T k v1 v2 v3 v4 v5 (k + j) = btN v4 (k + j - (k + 4 + 4 + 4)) := by
    unfold pnT5 pnT
    rw [if_pos (by omega), if_neg (by omega)]
  rw [e]
  exact fm_v (by omega) (by omega)
theorem fm_5 (h1 : 16 ≤ j) (h2 : j < 20) : (v5 >>> ((24 - (8 * ((nI j) - (nI j) / 4 * 4))) &&& 31)) &&& 255 = nI (pnT5 T k v1 v2 v3 v4 v5 (k + j)) := by
  have e : pnT5 T k v1 v2 v3 v4 v5 (k + j) = btN v5 (k + j - (k + 4 + 4 + 4 + 4)) := by
    unfold pnT5 pnT
    rw [if_neg (by omega)]
  rw [e]
  exact fm_v (by omega) (by omega)
theorem fd_step {G : Nat → Nat} {cj : Nat → Int32} {x : Int32} (h : ∀ i, i < k + j → cj i = nI (G i)) (hx : x = nI (G (k + j))) : ∀ i, i < k + (j + 1) → upd cj (k + j) x i = nI (G i) := by
  intro i hi
  unfold upd
  by_cases e : i = k + j
  · rw [if_pos e, e]; exact hx
  · rw [if_neg e]; exact h i (by omega)
end FM
