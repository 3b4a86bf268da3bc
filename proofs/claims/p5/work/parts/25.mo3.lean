section BD2
variable {T R3 R4 C f g : Nat → Int32} {w k q i : Nat} {d pb due : Int32}
theorem bd_fe (hT : bdT T) (h : bdF w R3 f) : bdF w R3 (rFe T f) := by
  unfold rFe
  refine bd_5 h ?_
  obtain ⟨-, -, -, -, ⟨a, ha, e⟩, -⟩ := hT
  obtain ⟨x, hx, e5⟩ := h.2.2.1
  rw [e, e5]
  by_cases c : nI x < nI a
  · rw [if_pos c]; exact ⟨0, by decide, rfl⟩
  · rw [if_neg c]
    have := (not_congr (nI_ltI (a := x) (b := a) (by omega) (by omega))).mp c
    exact ⟨x - a, by omega, pk_sub (by omega)⟩
theorem bd_md (hT : bdT T) (h4 : ∀ k, k < w → ∃ a, a ≤ 50 ∧ R4 k = nI a) (h : bdF w R3 f) : ∀ i, i ≤ w → bdF w R3 (rMd T R3 R4 f i)
  | 0, _ => h
  | i + 1, hi => by
    have ih := bd_md hT h4 h i (by omega)
    rw [rMd_s]
    generalize rMd T R3 R4 f i = F at ih
    obtain ⟨p, hp, ep⟩ := hT.2.2.2.2.2.1
    obtain ⟨hh, h50, eh⟩ := h4 i (by omega)
    obtain ⟨v, s, hv1, hvs, hs, ev, es⟩ := ih.2.2.2 i (by omega)
    obtain ⟨c0, b0, t0, e0, -, -, hsum⟩ := ih.1
    have hA : ∃ a, a ≤ s - v ∧ rMdA R3 R4 F i = nI a := by
      unfold rMdA
      rw [es, ev, eh, pk_sub hvs, mn_I (by omega) (by omega)]
      exact ⟨min (s - v) hh, by omega, rfl⟩
    obtain ⟨a, ha, ea⟩ := hA
    have hB : ∃ n, n ≤ s - v ∧ rMdB T F (nI a) = nI n := by
      unfold rMdB
      split
      · exact ⟨a, ha, rfl⟩
      · rename_i hne
        rw [ep] at hne
        have hp0 : 0 < p := Nat.pos_of_ne_zero (fun e => hne (by rw [e]; rfl))
        rw [e0, ep, pk_div (by omega) hp0 (by omega), mn_I (by have := Nat.div_le_self c0 p; omega) (by omega)]
        exact ⟨min (c0 / p) a, by omega, rfl⟩
    obtain ⟨n, hn, en⟩ := hB
    unfold rMdS
    rw [ea, en, ep, pk_mul]
    have hpn : p * n ≤ 9 * 99 := Nat.mul_le_mul hp (by omega)
    refine bd_L (bd_mv (by decide) (by decide) (by decide) ⟨p * n, by omega, rfl⟩ ih) ⟨v + n, s, by omega, by omega, hs, ?_, es⟩
    rw [mvF_n _ _ _ _ _ (by omega) (by omega), ev, nI_add]
theorem bd_ck1 (hT : bdT T) (h : bdF w R3 f) : bdF w R3 (rCk1 T f) := by
  unfold rCk1
  obtain ⟨a, ha, e⟩ := hT.1
  obtain ⟨m, n, e3, e4, hs⟩ := h.2.1
  have hb : m / 10 * a ≤ 300 * 9 := Nat.mul_le_mul (by omega) ha
  rw [e, e3, show (10 : Int32) = nI 10 from rfl, pk_div (by omega) (by decide) (by decide), pk_mul]
  exact bd_mv (by decide) (by decide) (by decide) ⟨_, by omega, rfl⟩ h
theorem bd_ck2 (hT : bdT T) (h : bdF w R3 f) : bdF w R3 (rCk2 T f) := by
  unfold rCk2
  obtain ⟨a, ha, e⟩ := hT.2.1
  obtain ⟨m, n, e3, e4, hs⟩ := h.2.1
  have hb : n / 10 * a ≤ 300 * 9 := Nat.mul_le_mul (by omega) ha
  rw [e, e4, show (10 : Int32) = nI 10 from rfl, pk_div (by omega) (by decide) (by decide), pk_mul]
  exact bd_mv (by decide) (by decide) (by decide) ⟨_, by omega, rfl⟩ h
theorem bd_tax (hT : bdT T) (h : bdF w R3 f) : bdF w R3 (rTax T f) := by
  unfold rTax
  obtain ⟨a, ha, e⟩ := hT.2.2.1
  obtain ⟨m, n, e3, e4, hs⟩ := h.2.1
  obtain ⟨x, hx, e5⟩ := h.2.2.1
  have hb : m * a ≤ 3000 * 100 := Nat.mul_le_mul (by omega) ha
  have hc : m * a * x ≤ 300000 * 100 := Nat.mul_le_mul hb hx
  rw [e, e3, e5, pk_mul, pk_mul, show (10000 : Int32) = nI 10000 from rfl, pk_div (by omega) (by decide) (by decide)]
  exact bd_mv (by decide) (by decide) (by decide) ⟨_, by have := Nat.div_le_self (m * a * x) 10000; omega, rfl⟩ h
theorem bd_34 (h : bdF w R3 f) {u v : Int32} (hu : ∃ m n, u = nI m ∧ v = nI n ∧ m + n ≤ 3000) : bdF w R3 (upd (upd f 3 u) 4 v) ∧ bdF w R3 (upd (upd f 4 v) 3 u) := by
  have e : upd (upd f 4 v) 3 u = upd (upd f 3 u) 4 v := upd_c (by decide)
  rw [e]
  have hn : ∀ z, z ≠ 3 → z ≠ 4 → upd (upd f 3 u) 4 v z = f z := fun z h3 h4 => by rw [upd_n h4, upd_n h3]
  have h3 : upd (upd f 3 u) 4 v 3 = u := by rw [upd_n (by decide), upd_s]
  have hh : bdF w R3 (upd (upd f 3 u) 4 v) := by
    unfold bdF
    rw [hn 0 (by decide) (by decide), hn 1 (by decide) (by decide), hn 2 (by decide) (by decide), hn 5 (by decide) (by decide), h3, upd_s]
    exact ⟨h.1, hu, h.2.2.1, fun k hk => by rw [hn _ (by omega) (by omega)]; exact h.2.2.2 k hk⟩
  exact ⟨hh, hh⟩
theorem bd_des (hT : bdT T) (h : bdF w R3 f) : bdF w R3 (rDes T f) := by
  obtain ⟨a, ha, e3⟩ := hT.1
  obtain ⟨b, hb, e6⟩ := hT.2.1
  obtain ⟨m, n, em, en, hs⟩ := h.2.1
  unfold rDes
  rw [e3, e6]
  split
  · rename_i c
    have c := (nI_ltI (a := a) (b := b) (by omega) (by omega)).mp c
    have hq : m * (b - a) / 100 ≤ m := by
      have : m * (b - a) ≤ m * 100 := Nat.mul_le_mul_left m (by omega)
      omega
    have hq2 : m * (b - a) ≤ 3000 * 9 := Nat.mul_le_mul (by omega) (by omega)
    refine (bd_34 h ⟨m - m * (b - a) / 100, n + m * (b - a) / 100, ?_, ?_, by omega⟩).1
    · rw [em, pk_sub (by omega), pk_mul, show (100 : Int32) = nI 100 from rfl, pk_div (by omega) (by decide) (by decide), pk_sub hq]
    · rw [upd_n (by decide), em, en, pk_sub (by omega), pk_mul, show (100 : Int32) = nI 100 from rfl, pk_div (by omega) (by decide) (by decide), nI_add]
  · rename_i c
    have c := (not_congr (nI_ltI (a := a) (b := b) (by omega) (by omega))).mp c
    have hq : n * (a - b) / 100 ≤ n := by
      have : n * (a - b) ≤ n * 100 := Nat.mul_le_mul_left n (by omega)
      omega
    have hq2 : n * (a - b) ≤ 3000 * 9 := Nat.mul_le_mul (by omega) (by omega)
    refine (bd_34 h ⟨m + n * (a - b) / 100, n - n * (a - b) / 100, ?_, ?_, by omega⟩).2
    · rw [upd_n (by decide), em, en, pk_sub (by omega), pk_mul, show (100 : Int32) = nI 100 from rfl, pk_div (by omega) (by decide) (by decide), nI_add]
    · rw [en, pk_sub (by omega), pk_mul, show (100 : Int32) = nI 100 from rfl, pk_div (by omega) (by decide) (by decide), pk_sub hq]
theorem bd_tail (hT : bdT T) (h4 : ∀ k, k < w → ∃ a, a ≤ 50 ∧ R4 k = nI a) (h : bdF w R3 f) : bdF w R3 (rTail T R3 R4 w f) := bd_des hT (bd_ck2 hT (bd_ck1 hT (bd_md hT h4 (bd_fe hT h) w (Nat.le_refl w))))
theorem bd_24 (hw6 : w ≤ 6) (h : bdF w R3 f) (v : Int32) : bdF w R3 (upd f 24 v) := bd_o h 24 v (by decide) (Or.inr (by omega))
theorem bd_end {q5 it mm : Nat} (hw6 : w ≤ 6) (h : bdF w R3 f) : bdF w R3 (rEnd q5 it mm f) := by
  have h11 : ∀ v, bdF w R3 (upd (upd f 24 (nI (mm + 1))) 11 v) := fun v => bd_o (bd_24 hw6 h _) 11 v (by decide) (Or.inl (by decide))
  unfold rEnd
  split
  · exact bd_24 hw6 h _
  · split
    · exact bd_sg (h11 _) _
    · exact h11 _
theorem bd_monN {mm : Nat} (hT : bdT T) (h4 : ∀ k, k < w → ∃ a, a ≤ 50 ∧ R4 k = nI a) (hw6 : w ≤ 6) (h : bdF w R3 f) : bdF w R3 (rMonN T R3 R4 w mm f) := bd_24 hw6 (bd_tail hT h4 (bd_tax hT h)) _
theorem bd_monP {ck q5 it mm : Nat} (hd : due = -1 ∨ ∃ k, k < w ∧ due = nI k) (hT : bdT T) (h4 : ∀ k, k < w → ∃ a, a ≤ 50 ∧ R4 k = nI a) (hC : bdC C) (hq : q < 10) (hw6 : w ≤ 6) (h : bdF w R3 f) : bdF w R3 (rMonP T R3 R4 C due q ck q5 it w mm f g) := bd_end hw6 (bd_tail hT h4 (bd_und hd hw6 hq hT hC (bd_tax hT h)))
end BD2
/-! what a month leaves of the places 10, 11, 24 -/
section K1
variable {T R3 R4 C f g : Nat → Int32} {w k q i : Nat} {d pb due : Int32}
theorem k_hit {X : ShS} (hw : 0 < w) (hd : due = -1 ∨ ∃ k, k < w ∧ due = nI k) (hw6 : w ≤ 6) : kpP X.1 (rHit T R3 pb due q w i X).1 := by
  have ha := aim_lt (f := X.1) hw hd hw6
  have h1 : kpP X.1 (hitF X.1 (aimK due X.1 w) (dmI q i)) := kp_u (kp_u (kp_r _) _ (by omega) (by omega) (by omega)) _ (by omega) (by omega) (by omega)
  unfold rHit
  split
  · exact h1
  · exact kp_m (kp_f (kp_u (kp_u (kp_u h1 _ (by omega) (by omega) (by omega)) _ (by omega) (by omega) (by omega)) _ (by omega) (by omega) (by omega)) _) _ (by omega) (by omega)
theorem k_sh (hd : due = -1 ∨ ∃ k, k < w ∧ due = nI k) (hw6 : w ≤ 6) (hw : 0 < w) : ∀ n, kpP f (rSh T R3 pb due q w f g n).1
  | 0 => kp_r _
  | n + 1 => kp_t (k_sh hd hw6 hw n) (k_hit hw hd hw6)
theorem k_shN {ck : Nat} (hd : due = -1 ∨ ∃ k, k < w ∧ due = nI k) (hw6 : w ≤ 6) : kpP f (rSh T R3 pb due q w f g (nSh w ck)).1 := by
  unfold nSh
  split
  · exact kp_r _
  · exact k_sh hd hw6 (by omega) ck
theorem k_shF {X : ShS} (h : kpP f X.1) : kpP f (rShF T due q X) := kp_f (kp_u h _ (by decide) (by decide) (by decide)) _
theorem k_md : ∀ i, i ≤ 6 → kpP f (rMd T R3 R4 f i)
  | 0, _ => kp_r _
  | i + 1, hi => by
    rw [rMd_s]
    exact kp_u (kp_m (k_md i (by omega)) _ (by decide) (by decide)) _ (by omega) (by omega) (by omega)
theorem k_des : kpP f (rDes T f) := by
  unfold rDes
  split <;> exact kp_u (kp_u (kp_r _) _ (by decide) (by decide) (by decide)) _ (by decide) (by decide) (by decide)
theorem k_tail (hw6 : w ≤ 6) : kpP f (rTail T R3 R4 w f) := kp_t (kp_m (kp_m (kp_t (kp_u (kp_r _) _ (by decide) (by decide) (by decide)) (k_md w hw6)) _ (by decide) (by decide)) _ (by decide) (by decide)) k_des
end K1
