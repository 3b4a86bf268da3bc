/-- offers as numbers -/
def oA (R : Rw) (d m : Nat) : Nat := if d < 2 ∧ m < 12 then toN (R (30 + d) m) else 0
def okO (R : Rw) : Prop := ∀ d, d < 2 → ∀ m, m < 12 → ∃ a, a ≤ 999 ∧ R (30 + d) m = nI a
theorem oA_I {R : Rw} (h : okO R) {d m : Nat} (hd : d < 2) (hm : m < 12) : R (30 + d) m = nI (oA R d m) := by
  obtain ⟨a, h1, h2⟩ := h d hd m hm
  unfold oA
  rw [if_pos ⟨hd, hm⟩, h2, toN_I (by omega)]
theorem oA_le {R : Rw} (h : okO R) (d m : Nat) : oA R d m ≤ 999 := by
  unfold oA
  by_cases c : d < 2 ∧ m < 12
  · obtain ⟨a, h1, h2⟩ := h d c.1 m c.2
    rw [if_pos c, h2, toN_I (by omega)]
    exact h1
  · rw [if_neg c]; omega
/-- the class's coins -/
def coO (co : Nat → Int32) (o : Nat → Nat → Nat) : Prop := ∀ m, m < 12 → ∀ v, v < 3 → co (m * 3 + v) = nI (if v = 0 then 0 else o (v - 1) m)
theorem bestN_z (w : Nat) : ∀ v, bestN (fun _ => 0) w v = 0
  | 0 => rfl
  | v + 1 => by
    rw [bestN, bestN_z w v]
    split
    · rfl
    · rfl
/-- the class's row: the months from i on -/
def reO (re : Nat → Int32) (o : Nat → Nat → Nat) (i : Nat) : Prop := ∀ m, i ≤ m → m ≤ 12 → ∀ b, b < 3 → re (m * 3 + b) = nI (if m = 12 then 0 else bestN (rsN o (12 - m)) b 3)
theorem thr_e {co re : Nat → Int32} {o : Nat → Nat → Nat} {i j : Nat} (hc : coO co o) (hr : reO re o (i + 1)) (hi : i < 12) (hj : j < 3) : co (i * 3 + j) + re ((i + 1) * 3 + j) = nI (rsN o (12 - i) j) := by
  rw [hc i hi j hj, hr (i + 1) (Nat.le_refl _) (by omega) j hj, rs_val hi]
  have e : (if i + 1 = 12 then 0 else bestN (rsN o (12 - (i + 1))) j 3) = bestN (rsN o (11 - i)) j 3 := by
    by_cases c : i + 1 = 12
    · rw [if_pos c, show 11 - i = 0 by omega]
      exact (bestN_z j 3).symm
    · rw [if_neg c, show 12 - (i + 1) = 11 - i by omega]
  rw [e, nI_add, Nat.add_comm]
theorem mx_f {f : Nat → Nat} {j k : Nat} {mx : Int32} (hm : ¬ mfF j k = 0) (hmx : mx = nI (bestN f j k)) (h1 : bestN f j k < 2147483648) (h2 : f k < 2147483648) : (if mx < nI (f k) then nI (f k) else mx) = nI (bestN f j (k + 1)) := by
  rw [hmx]
  by_cases c : bestN f j k < f k
  · rw [if_pos ((nI_ltI h1 h2).mpr c), best_t hm c]
  · rw [if_neg (fun h9 => c ((nI_ltI h1 h2).mp h9)), best_f c]
theorem reO_s {re : Nat → Int32} {o : Nat → Nat → Nat} {i : Nat} (h : reO re o (i + 1)) (hr : ∀ b, b < 3 → re (i * 3 + b) = nI (bestN (rsN o (12 - i)) b 3)) (hi : i < 12) : reO re o i := by
  intro m h1 h2 b hb
  by_cases e : m = i
  · rw [e, if_neg (by omega)]; exact hr b hb
  · exact h m (by omega) h2 b hb
theorem reO_k {re : Nat → Int32} {o : Nat → Nat → Nat} {i p : Nat} {v : Int32} (h : reO re o (i + 1)) (hp : p < (i + 1) * 3) : reO (upd re p v) o (i + 1) := by
  intro m h1 h2 b hb
  rw [upd_n (by omega)]
  exact h m h1 h2 b hb
theorem row_s {re f : Nat → Int32} {p j : Nat} {v : Int32} (h : ∀ b, b < j → re (p + b) = f b) (hv : v = f j) : ∀ b, b < j + 1 → upd re (p + j) v (p + b) = f b := by
  intro b hb
  by_cases e : b = j
  · rw [e, upd_s]; exact hv
  · rw [upd_n (by omega)]; exact h b (by omega)
theorem reO_12 {re : Nat → Int32} {o : Nat → Nat → Nat} (h : ∀ b, b < 3 → re (36 + b) = 0) : reO re o 12 := by
  intro m h1 h2 b hb
  rw [show m = 12 by omega, if_pos rfl]
  exact h b hb
theorem reO_36 {re : Nat → Int32} {o : Nat → Nat → Nat} {i : Nat} (h : reO re o i) (hi : i ≤ 12) : ∀ b, b < 3 → re (36 + b) = 0 := fun b hb => h 12 hi (by decide) b hb
/-- the first way that may follow b and comes to t -/
def fwN (f : Nat → Nat) (b t : Nat) : Nat → Nat → Nat
  | 0, _ => 0
  | n + 1, j => if (b = 0 ∨ j = 0 ∨ b = j) ∧ f j = t then j else fwN f b t n (j + 1)
theorem fw_n {f : Nat → Nat} {b t j x : Nat} (h : x = fwN f b t (3 - j) j) (hj : j < 3) (hn : mfF b j = 0 ∨ ¬ f j = t) : x = fwN f b t (3 - (j + 1)) (j + 1) := by
  rw [h, show 3 - j = (3 - (j + 1)) + 1 by omega, fwN, if_neg]
  rintro ⟨h1, h2⟩
  rcases hn with h9 | h9
  · unfold mfF at h9
    rw [if_pos h1] at h9
    exact absurd h9 (by decide)
  · exact h9 h2
theorem fw_y {f : Nat → Nat} {b t j x : Nat} (h : x = fwN f b t (3 - j) j) (hj : j < 3) (h1 : ¬ mfF b j = 0) (h2 : f j = t) : x = j := by
  rw [h, show 3 - j = (3 - (j + 1)) + 1 by omega, fwN, if_pos ⟨mf_of h1, h2⟩]
theorem fw_lt (f : Nat → Nat) (b t : Nat) : ∀ n j, n + j ≤ 3 → fwN f b t n j < 3
  | 0, _, _ => by rw [fwN]; decide
  | n + 1, j, h => by
    rw [fwN]
    split
    · omega
    · exact fw_lt f b t n (j + 1) (by omega)
/-- whom he serves behind j months -/
def svN (o : Nat → Nat → Nat) : Nat → Nat
  | 0 => 0
  | j + 1 => fwN (rsN o (12 - j)) (svN o j) (bestN (rsN o (12 - j)) (svN o j) 3) 3 0
theorem sv_lt (o : Nat → Nat → Nat) : ∀ j, svN o j < 3
  | 0 => by rw [svN]; decide
  | j + 1 => by rw [svN]; exact fw_lt _ _ _ 3 0 (by decide)
theorem rsN_b {o : Nat → Nat → Nat} (ho : ∀ d m, o d m ≤ 999) {i : Nat} (v : Nat) : rsN o (12 - i) v < 2147483648 := by
  have := rsN_le ho (12 - i) v
  omega
theorem bsN_b {o : Nat → Nat → Nat} (ho : ∀ d m, o d m ≤ 999) {i b k : Nat} (hk : k ≤ 3) : bestN (rsN o (12 - i)) b k < 2147483648 := by
  have := bestN_le (f := rsN o (12 - i)) (w := b) (fun v _ => rsN_le ho (12 - i) v) k hk
  omega
set_option maxHeartbeats 4000000 in
set_option maxRecDepth 100000 in
theorem s_X3_through (l : Launch) (g : he_G) (e0 : Nat) (e1 : Nat) (e2 : Nat) (co : Nat → Int32) (re_ : Nat → Int32) (o : Nat → Nat → Nat) (i : Nat) (j : Nat) (hi : i < 12) (hj : j < 3) (hco : coO co o) (hre : reO re_ o (i + 1)) : he_I l yX3_through wsX3_through 0 0 0 0 g [.ref e0, .int (nI i), .int (nI j)] [(oX3 e0 e1 e2), (aI g e1 36 co), (aI g e2 39 re_)] (fun (r : Int32) (u : Unit) => r = nI (rsN o (12 - i) j)) (fun (u : Unit) => [(oX3 e0 e1 e2), (aI g e1 36 co), (aI g e2 39 re_)]) := by
  refine he_begin (l := l) (g := g) (y := yX3_through) (wl := wsX3_through) (fr := 0) (lo := 0) (mc := 0) (ms := 0) (av := [.ref e0, .int (nI i), .int (nI j)]) (ws := [(oX3 e0 e1 e2), (aI g e1 36 co), (aI g e2 39 re_)]) (cc := cX3_through) (maxL := 3) (ret := (some .int)) (fun A => va_Qi (fun (r : Int32) (u : Unit) => r = nI (rsN o (12 - i) j)) (fun u t => he_post g A ((fun (u : Unit) => [(oX3 e0 e1 e2), (aI g e1 36 co), (aI g e2 39 re_)]) u) t) A) (by decide) rfl (Nat.le_of_ble_eq_true rfl) ?_
  intro p e s m args below meth c A ls H locs Q hQ hB
  obtain ⟨hx, hb, hr, hml, hown, hts, hlk, hin, hP, hK, hD, hS, hA, hE, hl⟩ := hB
  have hl : lv_has ls 3 [(0, .ref e0), (1, .int (nI i)), (2, .int (nI j))] := hl
  have f9 := hts (.fieldLink RX3 9 "HiredEnemy$Bids" "coins" "[I") (iwoX3_through (k := 0) rfl)
  have inX3 : ∀ w ∈ wsX30, w ∈ wsX3_through := innX3_through_X3
  have f13 := hts (.fieldLink RX3 13 "HiredEnemy$Bids" "rest" "[I") (iwoX3_through (k := 1) rfl)
  refine lv_aload_n hx hb dX3_through_0 rfl (lv_at hl 0 rfl) ?_
  refine va_get (v := .ref e1) (T := TX3) (N := 2) hx hb hts inX3 hown hK hP 0 rfl rfl 0 (by decide) f9 (fun _ h9 => h9) rfl dX3_through_1 ?_
  refine lv_iload_n hx hb dX3_through_4 rfl (lv_at hl 1 rfl) ?_
  refine lv_iconst (v := 3) hx hb dX3_through_5 (by decide) ?_
  refine lv_imul hx hb dX3_through_6 ?_
  refine he_top (nI (i * 3)) (pk_mul i 3) ?_
  refine lv_iload_n hx hb dX3_through_7 rfl (lv_at hl 2 rfl) ?_
  refine lv_iadd hx hb dX3_through_8 ?_
  refine he_top (nI (i * 3 + j)) (nI_add (i * 3) j) ?_
  refine he_iald hx hb hK hP 1 rfl (i * 3 + j) rfl (by first | assumption | decide | omega) (by first | decide | assumption) (co (i * 3 + j)) rfl dX3_through_9 ?_
  refine lv_aload_n hx hb dX3_through_10 rfl (lv_at hl 0 rfl) ?_
  refine va_get (v := .ref e2) (T := TX3) (N := 2) hx hb hts inX3 hown hK hP 0 rfl rfl 1 (by decide) f13 (fun _ h9 => h9) rfl dX3_through_11 ?_
  refine lv_iload_n hx hb dX3_through_14 rfl (lv_at hl 1 rfl) ?_
  refine lv_iconst (v := 1) hx hb dX3_through_15 (by decide) ?_
  refine lv_iadd hx hb dX3_through_16 ?_
  refine he_top (nI (i + 1)) (nI_add i 1) ?_
  refine lv_iconst (v := 3) hx hb dX3_through_17 (by decide) ?_
  refine lv_imul hx hb dX3_through_18 ?_
  refine he_top (nI ((i + 1) * 3)) (pk_mul (i + 1) 3) ?_
  refine lv_iload_n hx hb dX3_through_19 rfl (lv_at hl 2 rfl) ?_
  refine lv_iadd hx hb dX3_through_20 ?_
  refine he_top (nI ((i + 1) * 3 + j)) (nI_add ((i + 1) * 3) j) ?_
  refine he_iald hx hb hK hP 2 rfl ((i + 1) * 3 + j) rfl (by first | assumption | decide | omega) (by first | decide | assumption) (re_ ((i + 1) * 3 + j)) rfl dX3_through_21 ?_
  refine lv_iadd hx hb dX3_through_22 ?_
  exact he_ri hQ hx hb hr hlk hP hD hS dX3_through_23 (Nat.le_of_ble_eq_true rfl) (Nat.le_of_ble_eq_true rfl) (()) (rfl) ((thr_e hco hre hi hj))
set_option maxHeartbeats 4000000 in
set_option maxRecDepth 100000 in
theorem s_X3_mostFrom (l : Launch) (g : he_G) (e0 : Nat) (e1 : Nat) (e2 : Nat) (co : Nat → Int32) (re_ : Nat → Int32) (o : Nat → Nat → Nat) (i : Nat) (j : Nat) (hi : i < 12) (hj : j < 3) (hco : coO co o) (hob : ∀ d m, o d m ≤ 999) (hre : reO re_ o (i + 1)) : he_I l yX3_mostFrom wsX3_mostFrom 1 22 0 0 g [.ref e0, .int (nI i), .int (nI j)] [(oX3 e0 e1 e2), (aI g e1 36 co), (aI g e2 39 re_)] (fun (r : Int32) (u : Unit) => r = nI (bestN (rsN o (12 - i)) j 3)) (fun (u : Unit) => [(oX3 e0 e1 e2), (aI g e1 36 co), (aI g e2 39 re_)]) := by
  refine he_begin (l := l) (g := g) (y := yX3_mostFrom) (wl := wsX3_mostFrom) (fr := 1) (lo := 22) (mc := 0) (ms := 0) (av := [.ref e0, .int (nI i), .int (nI j)]) (ws := [(oX3 e0 e1 e2), (aI g e1 36 co), (aI g e2 39 re_)]) (cc := cX3_mostFrom) (maxL := 5) (ret := (some .int)) (fun A => va_Qi (fun (r : Int32) (u : Unit) => r = nI (bestN (rsN o (12 - i)) j 3)) (fun u t => he_post g A ((fun (u : Unit) => [(oX3 e0 e1 e2), (aI g e1 36 co), (aI g e2 39 re_)]) u) t) A) (by decide) rfl (Nat.le_of_ble_eq_true rfl) ?_
  intro p e s m args below meth c A ls H locs Q hQ hB
  obtain ⟨hx, hb, hr, hml, hown, hts, hlk, hin, hP, hK, hD, hS, hA, hE, hl⟩ := hB
  have hl : lv_has ls 5 [(0, .ref e0), (1, .int (nI i)), (2, .int (nI j))] := hl
  have ml33 := hts (.methodLink RX3 33 Lib.Math.max.name) (iwoX3_mostFrom (k := 0) rfl)
  have msmax := hts (.static Lib.Math.max.name) (iwoX3_mostFrom (k := 1) rfl)
  have mi := hts (.initialized "java/lang/Math") (iwoX3_mostFrom (k := 2) rfl)
  have mcmax := hts (.code Lib.Math.max.name Lib.Math.max.code 2 (some .int)) (iwoX3_mostFrom (k := 3) rfl)
  refine lv_iconst (v := 0) hx hb dX3_mostFrom_0 (by decide) ?_
  refine lv_istore_n (lv' := [(3, .int 0), (0, .ref e0), (1, .int (nI i)), (2, .int (nI j))]) hx hb dX3_mostFrom_1 rfl hl (by decide) rfl (fun ls hl => ?_)
  refine lv_iconst (v := 0) hx hb dX3_mostFrom_2 (by decide) ?_
  refine lv_istore (lv' := [(4, .int 0), (3, .int 0), (0, .ref e0), (1, .int (nI i)), (2, .int (nI j))]) hx hb dX3_mostFrom_3 hl (by decide) rfl (fun ls hl => ?_)
  have loop5 : ∀ (n9 : Nat) (k : Nat) (mx : Int32), 3 - k < n9 → (k ≤ 3) → (mx = nI (bestN (rsN o (12 - i)) j k)) → ∀ (H : Heap) (locs : List Loc) (ls : Array Slot), va_P g.1 vwCl [(oX3 e0 e1 e2), (aI g e1 36 co), (aI g e2 39 re_)] H → va_D A [(oX3 e0 e1 e2), (aI g e1 36 co), (aI g e2 39 re_)] → va_S A s.heap H locs → lv_has ls 5 [(0, .ref e0), (1, .int (nI i)), (2, .int (nI j)), (3, .int mx), (4, .int (nI k))] → W p l e (he_room 1 22 0 0) s m args below meth c H locs 0 0 Q (F0 m 5 ls []) := by
    intro n9
    induction n9 with
    | zero => intro k mx hm9; exact absurd hm9 (Nat.not_lt_zero _)
    | succ n9 ih5 =>
      intro k mx hm9 hk hmx H locs ls hP hD hS hl
      refine lv_iload hx hb dX3_mostFrom_5 (lv_at hl 4 rfl) ?_
      refine lv_iconst (v := 3) hx hb dX3_mostFrom_7 (by decide) ?_
      refine lv_icmp_ge (tgt := 38) hx hb dX3_mostFrom_8 (by decide) (fun c_1 => ?_) (fun c_1 => ?_)
      · have k_2 : 3 ≤ k := (he_cle (a := 3) (b := k) (by decide) rfl (by omega) (by omega)).mp c_1
        refine lv_iload_n hx hb dX3_mostFrom_38 rfl (lv_at hl 3 rfl) ?_
        exact he_ri hQ hx hb hr hlk hP hD hS dX3_mostFrom_39 (Nat.le_of_ble_eq_true rfl) (Nat.le_of_ble_eq_true rfl) (()) (rfl) ((hmx.trans (by rw [show k = 3 by omega])))
      · have k_3 : ¬ (3 ≤ k) := fun h9 => c_1 ((he_cle (a := 3) (b := k) (by decide) rfl (by omega) (by omega)).mpr h9)
        refine lv_iload_n hx hb dX3_mostFrom_11 rfl (lv_at hl 2 rfl) ?_
        refine lv_iload hx hb dX3_mostFrom_12 (lv_at hl 4 rfl) ?_
        refine he_ci (wc := []) (wr := [(oX3 e0 e1 e2), (aI g e1 36 co), (aI g e2 39 re_)]) (va_runS (As := [.int (nI j), .int (nI k)]) (rest := []) ⟨hx, hb, hml, hown, hts⟩ (c_X3_mayFollow l g j k (by first | assumption | decide | omega) (by first | assumption | decide | omega) H.size) (va_cwS 2 hts gX3_mostFrom_X3_mayFollow rfl rfl rfl (by decide +kernel) ⟨Nat.le_of_ble_eq_true rfl, Nat.le_of_ble_eq_true rfl⟩) (he_preS (wc := []) hK hP hD hS hA hE [] rfl rfl) rfl rfl hl.1 rfl (lv_room (Nat.le_of_ble_eq_true rfl)) dX3_mostFrom_14 ⟨(Nat.le_of_ble_eq_true rfl), (Nat.le_of_ble_eq_true rfl)⟩) hP hD hS hA [] [0, 1, 2] rfl rfl rfl (by decide) (fun r_4 u_5 H locs h_6 hP hD hS => ?_)
        subst h_6
        have hP : va_P g.1 vwCl [(oX3 e0 e1 e2), (aI g e1 36 co), (aI g e2 39 re_)] H := hP
        have hD : va_D A [(oX3 e0 e1 e2), (aI g e1 36 co), (aI g e2 39 re_)] := hD
        refine lv_if_eq (tgt := 32) hx hb dX3_mostFrom_17 (by decide) (fun c_7 => ?_) (fun c_7 => ?_)
        · refine lv_iinc (v := nI (k + 1)) (lv' := [(4, .int (nI (k + 1))), (0, .ref e0), (1, .int (nI i)), (2, .int (nI j)), (3, .int mx)]) hx hb dX3_mostFrom_32 hl (k := 4) rfl (nI_1 k) (by decide) rfl (fun ls hl => ?_)
          refine lv_goto (tgt := 5) hx hb dX3_mostFrom_35 (by decide) ?_
          exact ih5 (k + 1) mx (by omega) (by omega) (hmx.trans (by rw [best_n c_7])) _ _ _ hP hD hS (lv_sub hl [1, 2, 3, 4, 0] rfl)
        · refine lv_iload_n hx hb dX3_mostFrom_20 rfl (lv_at hl 3 rfl) ?_
          refine lv_aload_n hx hb dX3_mostFrom_21 rfl (lv_at hl 0 rfl) ?_
          refine lv_iload_n hx hb dX3_mostFrom_22 rfl (lv_at hl 1 rfl) ?_
          refine lv_iload hx hb dX3_mostFrom_23 (lv_at hl 4 rfl) ?_
          refine he_ci (wc := [(oX3 e0 e1 e2), (aI g e1 36 co), (aI g e2 39 re_)]) (wr := []) (va_runV (As := [.int (nI i), .int (nI k)]) (rest := [.int mx]) ⟨hx, hb, hml, hown, hts⟩ (s_X3_through l g e0 e1 e2 co re_ o i k (by first | assumption | decide | omega) (by first | assumption | decide | omega) (by first | assumption | decide | omega) (by first | assumption | decide | omega) H.size) (cwV 2 hts gX3_mostFrom_X3_through rfl rfl rfl (by decide +kernel) ⟨Nat.le_of_ble_eq_true rfl, Nat.le_of_ble_eq_true rfl⟩) (he_preV (wc := [(oX3 e0 e1 e2), (aI g e1 36 co), (aI g e2 39 re_)]) hK hP hD hS hA hE [0, 1, 2] rfl rfl 0 rfl rfl) rfl rfl hl.1 rfl (lv_room (Nat.le_of_ble_eq_true rfl)) dX3_mostFrom_25 ⟨(Nat.le_of_ble_eq_true rfl), (Nat.le_of_ble_eq_true rfl)⟩) hP hD hS hA [0, 1, 2] [] rfl rfl rfl (by decide) (fun r_8 u_9 H locs h_10 hP hD hS => ?_)
          subst h_10
          have hP : va_P g.1 vwCl [(oX3 e0 e1 e2), (aI g e1 36 co), (aI g e2 39 re_)] H := hP
          have hD : va_D A [(oX3 e0 e1 e2), (aI g e1 36 co), (aI g e2 39 re_)] := hD
          refine va_mmax hx hb (by rw [hml]; exact hl.1.symm) hown ml33 msmax mi mcmax (by decide) (Nat.le_of_ble_eq_true rfl) (Nat.le_of_ble_eq_true rfl) (Nat.le_of_ble_eq_true rfl) dX3_mostFrom_28 ?_
          refine lv_istore_n (lv' := [(3, .int (if mx < (nI (rsN o (12 - i) k)) then nI (rsN o (12 - i) k) else mx)), (0, .ref e0), (1, .int (nI i)), (2, .int (nI j)), (4, .int (nI k))]) hx hb dX3_mostFrom_31 rfl hl (by decide) rfl (fun ls hl => ?_)
          refine lv_iinc (v := nI (k + 1)) (lv' := [(4, .int (nI (k + 1))), (3, .int (if mx < (nI (rsN o (12 - i) k)) then nI (rsN o (12 - i) k) else mx)), (0, .ref e0), (1, .int (nI i)), (2, .int (nI j))]) hx hb dX3_mostFrom_32 hl (k := 4) rfl (nI_1 k) (by decide) rfl (fun ls hl => ?_)
          refine lv_goto (tgt := 5) hx hb dX3_mostFrom_35 (by decide) ?_
          exact ih5 (k + 1) (if mx < (nI (rsN o (12 - i) k)) then nI (rsN o (12 - i) k) else mx) (by omega) (by omega) (mx_f (f := rsN o (12 - i)) c_7 hmx (bsN_b hob (by omega)) (rsN_b hob k)) _ _ _ hP hD hS (lv_sub hl [2, 3, 4, 1, 0] rfl)
  exact loop5 ((3 - 0) + 1) 0 0 (Nat.lt_succ_self _) (Nat.zero_le _) rfl _ _ _ hP hD hS (lv_sub hl [2, 3, 4, 1, 0] rfl)
set_option maxHeartbeats 4000000 in
set_option maxRecDepth 100000 in
theorem s_X3_mostCoin (l : Launch) (g : he_G) (e0 : Nat) (e1 : Nat) (e2 : Nat) (co : Nat → Int32) (re_ : Nat → Int32) (o : Nat → Nat → Nat) (hco : coO co o) (hob : ∀ d m, o d m ≤ 999) (h36 : ∀ b, b < 3 → re_ (36 + b) = 0) : he_I l yX3_mostCoin wsX3_mostCoin 2 46 0 0 g [.ref e0] [(oX3 e0 e1 e2), (aI g e1 36 co), (aI g e2 39 re_)] (fun (r : Int32) (u : Nat → Int32) => r = nI (bestN (rsN o 12) 0 3) ∧ reO u o 0) (fun (u : Nat → Int32) => [(oX3 e0 e1 e2), (aI g e1 36 co), (aI g e2 39 u)]) := by
  refine he_begin (l := l) (g := g) (y := yX3_mostCoin) (wl := wsX3_mostCoin) (fr := 2) (lo := 46) (mc := 0) (ms := 0) (av := [.ref e0]) (ws := [(oX3 e0 e1 e2), (aI g e1 36 co), (aI g e2 39 re_)]) (cc := cX3_mostCoin) (maxL := 3) (ret := (some .int)) (fun A => va_Qi (fun (r : Int32) (u : Nat → Int32) => r = nI (bestN (rsN o 12) 0 3) ∧ reO u o 0) (fun u t => he_post g A ((fun (u : Nat → Int32) => [(oX3 e0 e1 e2), (aI g e1 36 co), (aI g e2 39 u)]) u) t) A) (by decide) rfl (Nat.le_of_ble_eq_true rfl) ?_
  intro p e s m args below meth c A ls H locs Q hQ hB
  obtain ⟨hx, hb, hr, hml, hown, hts, hlk, hin, hP, hK, hD, hS, hA, hE, hl⟩ := hB
  have hl : lv_has ls 3 [(0, .ref e0)] := hl
  have f13 := hts (.fieldLink RX3 13 "HiredEnemy$Bids" "rest" "[I") (iwoX3_mostCoin (k := 0) rfl)
  have inX3 : ∀ w ∈ wsX30, w ∈ wsX3_mostCoin := innX3_mostCoin_X3
  refine lv_bipush (v := 11) hx hb dX3_mostCoin_0 (by decide) ?_
  refine lv_istore_n (lv' := [(1, .int 11), (0, .ref e0)]) hx hb dX3_mostCoin_2 rfl hl (by decide) rfl (fun ls hl => ?_)
  have loop3 : ∀ (n9 : Nat) (i : Nat) (mo : Int32) (rj : Nat → Int32), i < n9 → (i ≤ 12) → (mo = nI i - 1) → (reO rj o i) → ∀ (H : Heap) (locs : List Loc) (ls : Array Slot), va_P g.1 vwCl [(oX3 e0 e1 e2), (aI g e1 36 co), (aI g e2 39 rj)] H → va_D A [(oX3 e0 e1 e2), (aI g e1 36 co), (aI g e2 39 rj)] → va_S A s.heap H locs → lv_has ls 3 [(0, .ref e0), (1, .int mo)] → W p l e (he_room 2 46 0 0) s m args below meth c H locs 0 0 Q (F0 m 3 ls []) := by
    intro n9
    induction n9 with
    | zero => intro i mo rj hm9; exact absurd hm9 (Nat.not_lt_zero _)
    | succ n9 ih3 =>
      intro i mo rj hm9 hi hmo hre H locs ls hP hD hS hl
      refine lv_iload_n hx hb dX3_mostCoin_3 rfl (lv_at hl 1 rfl) ?_
      refine lv_if_lt (tgt := 42) hx hb dX3_mostCoin_4 (by decide) (fun c_1 => ?_) (fun c_1 => ?_)
      · refine lv_aload_n hx hb dX3_mostCoin_42 rfl (lv_at hl 0 rfl) ?_
        refine va_get (v := .ref e2) (T := TX3) (N := 2) hx hb hts inX3 hown hK hP 0 rfl rfl 1 (by decide) f13 (fun _ h9 => h9) rfl dX3_mostCoin_43 ?_
        refine lv_iconst (v := 0) hx hb dX3_mostCoin_46 (by decide) ?_
        refine he_iald hx hb hK hP 2 rfl (0) (by decide) (by decide) (by first | decide | assumption) (rj 0) rfl dX3_mostCoin_47 ?_
        exact he_ri hQ hx hb hr hlk hP hD hS dX3_mostCoin_48 (Nat.le_of_ble_eq_true rfl) (Nat.le_of_ble_eq_true rfl) (rj) (rfl) ((by have e9 := dn0 hmo c_1 (by omega); subst e9; exact ⟨hre 0 (Nat.le_refl 0) (by decide) 0 (by decide), hre⟩))
      · obtain ⟨k, rfl, rfl⟩ := he_down hmo c_1
        refine lv_iconst (v := 0) hx hb dX3_mostCoin_7 (by decide) ?_
        refine lv_istore_n (lv' := [(2, .int 0), (0, .ref e0), (1, .int (nI k))]) hx hb dX3_mostCoin_8 rfl hl (by decide) rfl (fun ls hl => ?_)
        have loop9 : ∀ (n9 : Nat) (j : Nat) (rj : Nat → Int32), 3 - j < n9 → (j ≤ 3) → (reO rj o (k + 1)) → (∀ b, b < j → rj (k * 3 + b) = nI (bestN (rsN o (12 - k)) b 3)) → ∀ (H : Heap) (locs : List Loc) (ls : Array Slot), va_P g.1 vwCl [(oX3 e0 e1 e2), (aI g e1 36 co), (aI g e2 39 rj)] H → va_D A [(oX3 e0 e1 e2), (aI g e1 36 co), (aI g e2 39 rj)] → va_S A s.heap H locs → lv_has ls 3 [(0, .ref e0), (1, .int (nI k)), (2, .int (nI j))] → W p l e (he_room 2 46 0 0) s m args below meth c H locs 0 0 Q (F0 m 9 ls []) := by
          intro n9
          induction n9 with
          | zero => intro j rj hm9; exact absurd hm9 (Nat.not_lt_zero _)
          | succ n9 ih9 =>
            intro j rj hm9 hj hre hrw H locs ls hP hD hS hl
            refine lv_iload_n hx hb dX3_mostCoin_9 rfl (lv_at hl 2 rfl) ?_
            refine lv_iconst (v := 3) hx hb dX3_mostCoin_10 (by decide) ?_
            refine lv_icmp_ge (tgt := 36) hx hb dX3_mostCoin_11 (by decide) (fun c_2 => ?_) (fun c_2 => ?_)
            · have k_3 : 3 ≤ j := (he_cle (a := 3) (b := j) (by decide) rfl (by omega) (by omega)).mp c_2
              refine lv_iinc (v := nI k + (-1)) (lv' := [(1, .int (nI k + (-1))), (0, .ref e0), (2, .int (nI j))]) hx hb dX3_mostCoin_36 hl (k := 1) rfl rfl (by decide) rfl (fun ls hl => ?_)
              refine lv_goto (tgt := 3) hx hb dX3_mostCoin_39 (by decide) ?_
              exact ih3 k (nI k + (-1)) rj (by omega) (by omega) (he_dec k) (reO_s hre (fun b hb => hrw b (by omega)) (by omega)) _ _ _ hP hD hS (lv_sub hl [1, 0] rfl)
            · have k_4 : ¬ (3 ≤ j) := fun h9 => c_2 ((he_cle (a := 3) (b := j) (by decide) rfl (by omega) (by omega)).mpr h9)
              refine lv_aload_n hx hb dX3_mostCoin_14 rfl (lv_at hl 0 rfl) ?_
              refine va_get (v := .ref e2) (T := TX3) (N := 2) hx hb hts inX3 hown hK hP 0 rfl rfl 1 (by decide) f13 (fun _ h9 => h9) rfl dX3_mostCoin_15 ?_
              refine lv_iload_n hx hb dX3_mostCoin_18 rfl (lv_at hl 1 rfl) ?_
              refine lv_iconst (v := 3) hx hb dX3_mostCoin_19 (by decide) ?_
              refine lv_imul hx hb dX3_mostCoin_20 ?_
              refine he_top (nI (k * 3)) (pk_mul k 3) ?_
              refine lv_iload_n hx hb dX3_mostCoin_21 rfl (lv_at hl 2 rfl) ?_
              refine lv_iadd hx hb dX3_mostCoin_22 ?_
              refine he_top (nI (k * 3 + j)) (nI_add (k * 3) j) ?_
              refine lv_aload_n hx hb dX3_mostCoin_23 rfl (lv_at hl 0 rfl) ?_
              refine lv_iload_n hx hb dX3_mostCoin_24 rfl (lv_at hl 1 rfl) ?_
              refine lv_iload_n hx hb dX3_mostCoin_25 rfl (lv_at hl 2 rfl) ?_
              refine he_ci (wc := [(oX3 e0 e1 e2), (aI g e1 36 co), (aI g e2 39 rj)]) (wr := []) (va_runV (As := [.int (nI k), .int (nI j)]) (rest := [.int (nI (k * 3 + j)), .ref e2]) ⟨hx, hb, hml, hown, hts⟩ (s_X3_mostFrom l g e0 e1 e2 co rj o k j (by first | assumption | decide | omega) (by first | assumption | decide | omega) (by first | assumption | decide | omega) (by first | assumption | decide | omega) (by first | assumption | decide | omega) H.size) (cwV 2 hts gX3_mostCoin_X3_mostFrom rfl rfl rfl (by decide +kernel) ⟨Nat.le_of_ble_eq_true rfl, Nat.le_of_ble_eq_true rfl⟩) (he_preV (wc := [(oX3 e0 e1 e2), (aI g e1 36 co), (aI g e2 39 rj)]) hK hP hD hS hA hE [0, 1, 2] rfl rfl 0 rfl rfl) rfl rfl hl.1 rfl (lv_room (Nat.le_of_ble_eq_true rfl)) dX3_mostCoin_26 ⟨(Nat.le_of_ble_eq_true rfl), (Nat.le_of_ble_eq_true rfl)⟩) hP hD hS hA [0, 1, 2] [] rfl rfl rfl (by decide) (fun r_5 u_6 H locs h_7 hP hD hS => ?_)
              subst h_7
              have hP : va_P g.1 vwCl [(oX3 e0 e1 e2), (aI g e1 36 co), (aI g e2 39 rj)] H := hP
              have hD : va_D A [(oX3 e0 e1 e2), (aI g e1 36 co), (aI g e2 39 rj)] := hD
              refine he_iast hx hb hK hP hD hS 2 rfl (k * 3 + j) rfl (by first | assumption | decide | omega) (by first | decide | assumption) dX3_mostCoin_29 (fun H locs hP hD hS => ?_)
              have hP : va_P g.1 vwCl [(oX3 e0 e1 e2), (aI g e1 36 co), (aI g e2 39 (upd rj (k * 3 + j) (nI (bestN (rsN o (12 - k)) j 3))))] H := hP
              have hD : va_D A [(oX3 e0 e1 e2), (aI g e1 36 co), (aI g e2 39 (upd rj (k * 3 + j) (nI (bestN (rsN o (12 - k)) j 3))))] := hD
              refine lv_iinc (v := nI (j + 1)) (lv' := [(2, .int (nI (j + 1))), (0, .ref e0), (1, .int (nI k))]) hx hb dX3_mostCoin_30 hl (k := 2) rfl (nI_1 j) (by decide) rfl (fun ls hl => ?_)
              refine lv_goto (tgt := 9) hx hb dX3_mostCoin_33 (by decide) ?_
              exact ih9 (j + 1) (upd rj (k * 3 + j) (nI (bestN (rsN o (12 - k)) j 3))) (by omega) (by omega) (reO_k hre (by omega)) (row_s (f := fun b => nI (bestN (rsN o (12 - k)) b 3)) hrw rfl) _ _ _ hP hD hS (lv_sub hl [1, 2, 0] rfl)
        exact loop9 ((3 - 0) + 1) 0 rj (Nat.lt_succ_self _) (Nat.zero_le _) hre (fun b hb => absurd hb (Nat.not_lt_zero b)) _ _ _ hP hD hS (lv_sub hl [1, 2, 0] rfl)
  exact loop3 ((12) + 1) 12 11 re_ (Nat.lt_succ_self _) (by decide) (by decide) (reO_12 h36) _ _ _ hP hD hS (lv_sub hl [1, 0] rfl)
set_option maxHeartbeats 4000000 in
set_option maxRecDepth 100000 in
theorem s_X3_firstWay (l : Launch) (g : he_G) (e0 : Nat) (e1 : Nat) (e2 : Nat) (co : Nat → Int32) (re_ : Nat → Int32) (o : Nat → Nat → Nat) (i : Nat) (b : Nat) (hi : i < 12) (hb9 : b < 3) (hco : coO co o) (hob : ∀ d m, o d m ≤ 999) (hre : reO re_ o i) : he_I l yX3_firstWay wsX3_firstWay 1 22 0 0 g [.ref e0, .int (nI i), .int (nI b)] [(oX3 e0 e1 e2), (aI g e1 36 co), (aI g e2 39 re_)] (fun (r : Int32) (u : Unit) => r = nI (fwN (rsN o (12 - i)) b (bestN (rsN o (12 - i)) b 3) 3 0)) (fun (u : Unit) => [(oX3 e0 e1 e2), (aI g e1 36 co), (aI g e2 39 re_)]) := by
  refine he_begin (l := l) (g := g) (y := yX3_firstWay) (wl := wsX3_firstWay) (fr := 1) (lo := 22) (mc := 0) (ms := 0) (av := [.ref e0, .int (nI i), .int (nI b)]) (ws := [(oX3 e0 e1 e2), (aI g e1 36 co), (aI g e2 39 re_)]) (cc := cX3_firstWay) (maxL := 4) (ret := (some .int)) (fun A => va_Qi (fun (r : Int32) (u : Unit) => r = nI (fwN (rsN o (12 - i)) b (bestN (rsN o (12 - i)) b 3) 3 0)) (fun u t => he_post g A ((fun (u : Unit) => [(oX3 e0 e1 e2), (aI g e1 36 co), (aI g e2 39 re_)]) u) t) A) (by decide) rfl (Nat.le_of_ble_eq_true rfl) ?_
  intro p e s m args below meth c A ls H locs Q hQ hB
  obtain ⟨hx, hb, hr, hml, hown, hts, hlk, hin, hP, hK, hD, hS, hA, hE, hl⟩ := hB
  have hl : lv_has ls 4 [(0, .ref e0), (1, .int (nI i)), (2, .int (nI b))] := hl
  have hre9 : re_ (i * 3 + b) = nI (bestN (rsN o (12 - i)) b 3) := (hre i (Nat.le_refl i) (by omega) b hb9).trans (by rw [if_neg (by omega)])
  have f13 := hts (.fieldLink RX3 13 "HiredEnemy$Bids" "rest" "[I") (iwoX3_firstWay (k := 0) rfl)
  have inX3 : ∀ w ∈ wsX30, w ∈ wsX3_firstWay := innX3_firstWay_X3
  refine lv_iconst (v := 0) hx hb dX3_firstWay_0 (by decide) ?_
  refine lv_istore_n (lv' := [(3, .int 0), (0, .ref e0), (1, .int (nI i)), (2, .int (nI b))]) hx hb dX3_firstWay_1 rfl hl (by decide) rfl (fun ls hl => ?_)
  have loop2 : ∀ (n9 : Nat) (j : Nat), 3 - j < n9 → (j ≤ 3) → (fwN (rsN o (12 - i)) b (bestN (rsN o (12 - i)) b 3) 3 0 = fwN (rsN o (12 - i)) b (bestN (rsN o (12 - i)) b 3) (3 - j) j) → ∀ (H : Heap) (locs : List Loc) (ls : Array Slot), va_P g.1 vwCl [(oX3 e0 e1 e2), (aI g e1 36 co), (aI g e2 39 re_)] H → va_D A [(oX3 e0 e1 e2), (aI g e1 36 co), (aI g e2 39 re_)] → va_S A s.heap H locs → lv_has ls 4 [(0, .ref e0), (1, .int (nI i)), (2, .int (nI b)), (3, .int (nI j))] → W p l e (he_room 1 22 0 0) s m args below meth c H locs 0 0 Q (F0 m 2 ls []) := by
    intro n9
    induction n9 with
    | zero => intro j hm9; exact absurd hm9 (Nat.not_lt_zero _)
    | succ n9 ih2 =>
      intro j hm9 hj hfw H locs ls hP hD hS hl
      refine lv_iload_n hx hb dX3_firstWay_2 rfl (lv_at hl 3 rfl) ?_
      refine lv_iconst (v := 3) hx hb dX3_firstWay_3 (by decide) ?_
      refine lv_icmp_ge (tgt := 42) hx hb dX3_firstWay_4 (by decide) (fun c_1 => ?_) (fun c_1 => ?_)
      · have k_2 : 3 ≤ j := (he_cle (a := 3) (b := j) (by decide) rfl (by omega) (by omega)).mp c_1
        refine lv_iconst (v := 0) hx hb dX3_firstWay_42 (by decide) ?_
        exact he_ri hQ hx hb hr hlk hP hD hS dX3_firstWay_43 (Nat.le_of_ble_eq_true rfl) (Nat.le_of_ble_eq_true rfl) (()) (rfl) ((congrArg nI (by rw [hfw, show 3 - j = 0 by omega, fwN])))
      · have k_3 : ¬ (3 ≤ j) := fun h9 => c_1 ((he_cle (a := 3) (b := j) (by decide) rfl (by omega) (by omega)).mpr h9)
        refine lv_iload_n hx hb dX3_firstWay_7 rfl (lv_at hl 2 rfl) ?_
        refine lv_iload_n hx hb dX3_firstWay_8 rfl (lv_at hl 3 rfl) ?_
        refine he_ci (wc := []) (wr := [(oX3 e0 e1 e2), (aI g e1 36 co), (aI g e2 39 re_)]) (va_runS (As := [.int (nI b), .int (nI j)]) (rest := []) ⟨hx, hb, hml, hown, hts⟩ (c_X3_mayFollow l g b j (by first | assumption | decide | omega) (by first | assumption | decide | omega) H.size) (va_cwS 2 hts gX3_firstWay_X3_mayFollow rfl rfl rfl (by decide +kernel) ⟨Nat.le_of_ble_eq_true rfl, Nat.le_of_ble_eq_true rfl⟩) (he_preS (wc := []) hK hP hD hS hA hE [] rfl rfl) rfl rfl hl.1 rfl (lv_room (Nat.le_of_ble_eq_true rfl)) dX3_firstWay_9 ⟨(Nat.le_of_ble_eq_true rfl), (Nat.le_of_ble_eq_true rfl)⟩) hP hD hS hA [] [0, 1, 2] rfl rfl rfl (by decide) (fun r_4 u_5 H locs h_6 hP hD hS => ?_)
        subst h_6
        have hP : va_P g.1 vwCl [(oX3 e0 e1 e2), (aI g e1 36 co), (aI g e2 39 re_)] H := hP
        have hD : va_D A [(oX3 e0 e1 e2), (aI g e1 36 co), (aI g e2 39 re_)] := hD
        refine lv_if_eq (tgt := 36) hx hb dX3_firstWay_12 (by decide) (fun c_7 => ?_) (fun c_7 => ?_)
        · refine lv_iinc (v := nI (j + 1)) (lv' := [(3, .int (nI (j + 1))), (0, .ref e0), (1, .int (nI i)), (2, .int (nI b))]) hx hb dX3_firstWay_36 hl (k := 3) rfl (nI_1 j) (by decide) rfl (fun ls hl => ?_)
          refine lv_goto (tgt := 2) hx hb dX3_firstWay_39 (by decide) ?_
          exact ih2 (j + 1) (by omega) (by omega) (fw_n hfw (by omega) (Or.inl c_7)) _ _ _ hP hD hS (lv_sub hl [1, 2, 3, 0] rfl)
        · refine lv_aload_n hx hb dX3_firstWay_15 rfl (lv_at hl 0 rfl) ?_
          refine lv_iload_n hx hb dX3_firstWay_16 rfl (lv_at hl 1 rfl) ?_
          refine lv_iload_n hx hb dX3_firstWay_17 rfl (lv_at hl 3 rfl) ?_
          refine he_ci (wc := [(oX3 e0 e1 e2), (aI g e1 36 co), (aI g e2 39 re_)]) (wr := []) (va_runV (As := [.int (nI i), .int (nI j)]) (rest := []) ⟨hx, hb, hml, hown, hts⟩ (s_X3_through l g e0 e1 e2 co re_ o i j (by first | assumption | decide | omega) (by first | assumption | decide | omega) (by first | assumption | decide | omega) (fun m h1 h2 b hb => hre m (by omega) h2 b hb) H.size) (cwV 2 hts gX3_firstWay_X3_through rfl rfl rfl (by decide +kernel) ⟨Nat.le_of_ble_eq_true rfl, Nat.le_of_ble_eq_true rfl⟩) (he_preV (wc := [(oX3 e0 e1 e2), (aI g e1 36 co), (aI g e2 39 re_)]) hK hP hD hS hA hE [0, 1, 2] rfl rfl 0 rfl rfl) rfl rfl hl.1 rfl (lv_room (Nat.le_of_ble_eq_true rfl)) dX3_firstWay_18 ⟨(Nat.le_of_ble_eq_true rfl), (Nat.le_of_ble_eq_true rfl)⟩) hP hD hS hA [0, 1, 2] [] rfl rfl rfl (by decide) (fun r_8 u_9 H locs h_10 hP hD hS => ?_)
          subst h_10
          have hP : va_P g.1 vwCl [(oX3 e0 e1 e2), (aI g e1 36 co), (aI g e2 39 re_)] H := hP
          have hD : va_D A [(oX3 e0 e1 e2), (aI g e1 36 co), (aI g e2 39 re_)] := hD
          refine lv_aload_n hx hb dX3_firstWay_21 rfl (lv_at hl 0 rfl) ?_
          refine va_get (v := .ref e2) (T := TX3) (N := 2) hx hb hts inX3 hown hK hP 0 rfl rfl 1 (by decide) f13 (fun _ h9 => h9) rfl dX3_firstWay_22 ?_
          refine lv_iload_n hx hb dX3_firstWay_25 rfl (lv_at hl 1 rfl) ?_
          refine lv_iconst (v := 3) hx hb dX3_firstWay_26 (by decide) ?_
          refine lv_imul hx hb dX3_firstWay_27 ?_
          refine he_top (nI (i * 3)) (pk_mul i 3) ?_
          refine lv_iload_n hx hb dX3_firstWay_28 rfl (lv_at hl 2 rfl) ?_
          refine lv_iadd hx hb dX3_firstWay_29 ?_
          refine he_top (nI (i * 3 + b)) (nI_add (i * 3) b) ?_
          refine he_iald hx hb hK hP 2 rfl (i * 3 + b) rfl (by first | assumption | decide | omega) (by first | decide | assumption) (re_ (i * 3 + b)) rfl dX3_firstWay_30 ?_
          refine lv_icmp_ne (tgt := 36) hx hb dX3_firstWay_31 (by decide) (fun c_11 => ?_) (fun c_11 => ?_)
          · refine lv_iinc (v := nI (j + 1)) (lv' := [(3, .int (nI (j + 1))), (0, .ref e0), (1, .int (nI i)), (2, .int (nI b))]) hx hb dX3_firstWay_36 hl (k := 3) rfl (nI_1 j) (by decide) rfl (fun ls hl => ?_)
            refine lv_goto (tgt := 2) hx hb dX3_firstWay_39 (by decide) ?_
            exact ih2 (j + 1) (by omega) (by omega) (fw_n hfw (by omega) (Or.inr (fun h9 => c_11 (by rw [hre9, h9])))) _ _ _ hP hD hS (lv_sub hl [1, 2, 3, 0] rfl)
          · refine lv_iload_n hx hb dX3_firstWay_34 rfl (lv_at hl 3 rfl) ?_
            exact he_ri hQ hx hb hr hlk hP hD hS dX3_firstWay_35 (Nat.le_of_ble_eq_true rfl) (Nat.le_of_ble_eq_true rfl) (()) (rfl) ((congrArg nI (fw_y hfw (by omega) c_7 (nI_j (rsN_b hob j) (bsN_b hob (by decide)) (c_11.trans hre9))).symm))
  exact loop2 ((3 - 0) + 1) 0 (Nat.lt_succ_self _) (Nat.zero_le _) rfl _ _ _ hP hD hS (lv_sub hl [1, 2, 3, 0] rfl)
set_option maxHeartbeats 4000000 in
set_option maxRecDepth 100000 in
theorem s_X3_served (l : Launch) (g : he_G) (e0 : Nat) (e1 : Nat) (e2 : Nat) (co : Nat → Int32) (re_ : Nat → Int32) (o : Nat → Nat → Nat) (k : Nat) (hk : k < 12) (hco : coO co o) (hob : ∀ d m, o d m ≤ 999) (h36 : ∀ b, b < 3 → re_ (36 + b) = 0) : he_I l yX3_served wsX3_served 3 68 0 0 g [.ref e0, .int (nI k)] [(oX3 e0 e1 e2), (aI g e1 36 co), (aI g e2 39 re_)] (fun (r : Int32) (u : Nat → Int32) => r = nI (svN o (k + 1)) ∧ reO u o 0) (fun (u : Nat → Int32) => [(oX3 e0 e1 e2), (aI g e1 36 co), (aI g e2 39 u)]) := by
  refine he_begin (l := l) (g := g) (y := yX3_served) (wl := wsX3_served) (fr := 3) (lo := 68) (mc := 0) (ms := 0) (av := [.ref e0, .int (nI k)]) (ws := [(oX3 e0 e1 e2), (aI g e1 36 co), (aI g e2 39 re_)]) (cc := cX3_served) (maxL := 4) (ret := (some .int)) (fun A => va_Qi (fun (r : Int32) (u : Nat → Int32) => r = nI (svN o (k + 1)) ∧ reO u o 0) (fun u t => he_post g A ((fun (u : Nat → Int32) => [(oX3 e0 e1 e2), (aI g e1 36 co), (aI g e2 39 u)]) u) t) A) (by decide) rfl (Nat.le_of_ble_eq_true rfl) ?_
  intro p e s m args below meth c A ls H locs Q hQ hB
  obtain ⟨hx, hb, hr, hml, hown, hts, hlk, hin, hP, hK, hD, hS, hA, hE, hl⟩ := hB
  have hl : lv_has ls 4 [(0, .ref e0), (1, .int (nI k))] := hl
  refine lv_aload_n hx hb dX3_served_0 rfl (lv_at hl 0 rfl) ?_
  refine he_ci (wc := [(oX3 e0 e1 e2), (aI g e1 36 co), (aI g e2 39 re_)]) (wr := []) (va_runV (As := []) (rest := []) ⟨hx, hb, hml, hown, hts⟩ (s_X3_mostCoin l g e0 e1 e2 co re_ o (by first | assumption | decide | omega) (by first | assumption | decide | omega) (by first | assumption | decide | omega) H.size) (cwV 0 hts gX3_served_X3_mostCoin rfl rfl rfl (by decide +kernel) ⟨Nat.le_of_ble_eq_true rfl, Nat.le_of_ble_eq_true rfl⟩) (he_preV (wc := [(oX3 e0 e1 e2), (aI g e1 36 co), (aI g e2 39 re_)]) hK hP hD hS hA hE [0, 1, 2] rfl rfl 0 rfl rfl) rfl rfl hl.1 rfl (lv_room (Nat.le_of_ble_eq_true rfl)) dX3_served_1 ⟨(Nat.le_of_ble_eq_true rfl), (Nat.le_of_ble_eq_true rfl)⟩) hP hD hS hA [0, 1, 2] [] rfl rfl rfl (by decide) (fun r_1 u_2 H locs h_3 hP hD hS => ?_)
  obtain ⟨ur_4, rfl⟩ : ∃ z, z = u_2 := ⟨_, rfl⟩
  try dsimp only at h_3
  obtain ⟨rfl, hf_5⟩ := h_3
  have hP : va_P g.1 vwCl [(oX3 e0 e1 e2), (aI g e1 36 co), (aI g e2 39 ur_4)] H := hP
  have hD : va_D A [(oX3 e0 e1 e2), (aI g e1 36 co), (aI g e2 39 ur_4)] := hD
  have hre := hf_5
  refine lv_pop hx hb dX3_served_4 rfl ?_
  refine lv_iconst (v := 0) hx hb dX3_served_5 (by decide) ?_
  refine lv_istore_n (lv' := [(2, .int 0), (0, .ref e0), (1, .int (nI k))]) hx hb dX3_served_6 rfl hl (by decide) rfl (fun ls hl => ?_)
  refine lv_iconst (v := 0) hx hb dX3_served_7 (by decide) ?_
  refine lv_istore_n (lv' := [(3, .int 0), (2, .int 0), (0, .ref e0), (1, .int (nI k))]) hx hb dX3_served_8 rfl hl (by decide) rfl (fun ls hl => ?_)
  have loop9 : ∀ (n9 : Nat) (j : Nat) (b : Nat), 12 - j < n9 → (j ≤ k + 1) → (b = svN o j) → ∀ (H : Heap) (locs : List Loc) (ls : Array Slot), va_P g.1 vwCl [(oX3 e0 e1 e2), (aI g e1 36 co), (aI g e2 39 ur_4)] H → va_D A [(oX3 e0 e1 e2), (aI g e1 36 co), (aI g e2 39 ur_4)] → va_S A s.heap H locs → lv_has ls 4 [(0, .ref e0), (1, .int (nI k)), (2, .int (nI b)), (3, .int (nI j))] → W p l e (he_room 3 68 0 0) s m args below meth c H locs 0 0 Q (F0 m 9 ls []) := by
    intro n9
    induction n9 with
    | zero => intro j b hm9; exact absurd hm9 (Nat.not_lt_zero _)
    | succ n9 ih9 =>
      intro j b hm9 hj hbs H locs ls hP hD hS hl
      refine lv_iload_n hx hb dX3_served_9 rfl (lv_at hl 3 rfl) ?_
      refine lv_iload_n hx hb dX3_served_10 rfl (lv_at hl 1 rfl) ?_
      refine lv_icmp_gt (tgt := 33) hx hb dX3_served_11 (by decide) (fun c_6 => ?_) (fun c_6 => ?_)
      · have k_7 : k < j := (he_clt (a := k) (b := j) rfl rfl (by omega) (by omega)).mp c_6
        refine lv_iload_n hx hb dX3_served_33 rfl (lv_at hl 2 rfl) ?_
        exact he_ri hQ hx hb hr hlk hP hD hS dX3_served_34 (Nat.le_of_ble_eq_true rfl) (Nat.le_of_ble_eq_true rfl) (ur_4) (rfl) (⟨by rw [hbs, show j = k + 1 by omega], hre⟩)
      · have k_8 : ¬ (k < j) := fun h9 => c_6 ((he_clt (a := k) (b := j) rfl rfl (by omega) (by omega)).mpr h9)
        refine lv_iload_n hx hb dX3_served_14 rfl (lv_at hl 3 rfl) ?_
        refine lv_bipush (v := 12) hx hb dX3_served_15 (by decide) ?_
        refine lv_icmp_ge (tgt := 33) hx hb dX3_served_17 (by decide) (fun c_9 => ?_) (fun c_9 => ?_)
        · have k_10 : 12 ≤ j := (he_cle (a := 12) (b := j) (by decide) rfl (by omega) (by omega)).mp c_9
          refine lv_iload_n hx hb dX3_served_33 rfl (lv_at hl 2 rfl) ?_
          exact he_ri hQ hx hb hr hlk hP hD hS dX3_served_34 (Nat.le_of_ble_eq_true rfl) (Nat.le_of_ble_eq_true rfl) (ur_4) (rfl) (⟨by rw [hbs, show j = k + 1 by omega], hre⟩)
        · have k_11 : ¬ (12 ≤ j) := fun h9 => c_9 ((he_cle (a := 12) (b := j) (by decide) rfl (by omega) (by omega)).mpr h9)
          refine lv_aload_n hx hb dX3_served_20 rfl (lv_at hl 0 rfl) ?_
          refine lv_iload_n hx hb dX3_served_21 rfl (lv_at hl 3 rfl) ?_
          refine lv_iload_n hx hb dX3_served_22 rfl (lv_at hl 2 rfl) ?_
          refine he_ci (wc := [(oX3 e0 e1 e2), (aI g e1 36 co), (aI g e2 39 ur_4)]) (wr := []) (va_runV (As := [.int (nI j), .int (nI b)]) (rest := []) ⟨hx, hb, hml, hown, hts⟩ (s_X3_firstWay l g e0 e1 e2 co ur_4 o j b (by first | assumption | decide | omega) (by rw [hbs]; exact sv_lt o j) (by first | assumption | decide | omega) (by first | assumption | decide | omega) (fun m h1 h2 b hb => hre m (Nat.zero_le _) h2 b hb) H.size) (cwV 2 hts gX3_served_X3_firstWay rfl rfl rfl (by decide +kernel) ⟨Nat.le_of_ble_eq_true rfl, Nat.le_of_ble_eq_true rfl⟩) (he_preV (wc := [(oX3 e0 e1 e2), (aI g e1 36 co), (aI g e2 39 ur_4)]) hK hP hD hS hA hE [0, 1, 2] rfl rfl 0 rfl rfl) rfl rfl hl.1 rfl (lv_room (Nat.le_of_ble_eq_true rfl)) dX3_served_23 ⟨(Nat.le_of_ble_eq_true rfl), (Nat.le_of_ble_eq_true rfl)⟩) hP hD hS hA [0, 1, 2] [] rfl rfl rfl (by decide) (fun r_12 u_13 H locs h_14 hP hD hS => ?_)
          subst h_14
          have hP : va_P g.1 vwCl [(oX3 e0 e1 e2), (aI g e1 36 co), (aI g e2 39 ur_4)] H := hP
          have hD : va_D A [(oX3 e0 e1 e2), (aI g e1 36 co), (aI g e2 39 ur_4)] := hD
          refine lv_istore_n (lv' := [(2, .int (nI (fwN (rsN o (12 - j)) b (bestN (rsN o (12 - j)) b 3) 3 0))), (0, .ref e0), (1, .int (nI k)), (3, .int (nI j))]) hx hb dX3_served_26 rfl hl (by decide) rfl (fun ls hl => ?_)
          refine lv_iinc (v := nI (j + 1)) (lv' := [(3, .int (nI (j + 1))), (2, .int (nI (fwN (rsN o (12 - j)) b (bestN (rsN o (12 - j)) b 3) 3 0))), (0, .ref e0), (1, .int (nI k))]) hx hb dX3_served_27 hl (k := 3) rfl (nI_1 j) (by decide) rfl (fun ls hl => ?_)
          refine lv_goto (tgt := 9) hx hb dX3_served_30 (by decide) ?_
          exact ih9 (j + 1) (fwN (rsN o (12 - j)) b (bestN (rsN o (12 - j)) b 3) 3 0) (by omega) (by omega) (by rw [svN, hbs]) _ _ _ hP hD hS (lv_sub hl [2, 3, 1, 0] rfl)
  exact loop9 ((12 - 0) + 1) 0 0 (Nat.lt_succ_self _) (Nat.zero_le _) rfl _ _ _ hP hD hS (lv_sub hl [2, 3, 1, 0] rfl)
set_option maxHeartbeats 4000000 in
set_option maxRecDepth 100000 in
theorem s_X10_most (l : Launch) (g : he_G) (x0 : Nat) (y0 : Nat) (z0 : Nat) (p0 : Nat) (dr : Nat) (pa : Nat) (s0 : Nat) (im : Nat) (tr : Nat) (v0 : Nat) (rf : Nat) (ta : Int32) (to_ : Int32) (ki : Int32) (h0 : Nat) (a0 : Nat) (b0 : Nat) (e0 : Nat) (e1 : Nat) (e2 : Nat) (co : Nat → Int32) (re_ : Nat → Int32) (o : Nat → Nat → Nat) (hco : coO co o) (hob : ∀ d m, o d m ≤ 999) (h36 : ∀ b, b < 3 → re_ (36 + b) = 0) : he_I l yX10_most wsX10_most 3 68 0 0 g [.ref x0] [(oX10 x0 y0 ta z0 p0 dr pa to_ s0 im ki tr v0 rf), (oX8 s0 h0 a0 b0 e0), (oX3 e0 e1 e2), (aI g e1 36 co), (aI g e2 39 re_)] (fun (r : Int32) (u : Nat → Int32) => r = nI (bestN (rsN o 12) 0 3) ∧ reO u o 0) (fun (u : Nat → Int32) => [(oX10 x0 y0 ta z0 p0 dr pa to_ s0 im ki tr v0 rf), (oX8 s0 h0 a0 b0 e0), (oX3 e0 e1 e2), (aI g e1 36 co), (aI g e2 39 u)]) := by
  refine he_begin (l := l) (g := g) (y := yX10_most) (wl := wsX10_most) (fr := 3) (lo := 68) (mc := 0) (ms := 0) (av := [.ref x0]) (ws := [(oX10 x0 y0 ta z0 p0 dr pa to_ s0 im ki tr v0 rf), (oX8 s0 h0 a0 b0 e0), (oX3 e0 e1 e2), (aI g e1 36 co), (aI g e2 39 re_)]) (cc := cX10_most) (maxL := 1) (ret := (some .int)) (fun A => va_Qi (fun (r : Int32) (u : Nat → Int32) => r = nI (bestN (rsN o 12) 0 3) ∧ reO u o 0) (fun u t => he_post g A ((fun (u : Nat → Int32) => [(oX10 x0 y0 ta z0 p0 dr pa to_ s0 im ki tr v0 rf), (oX8 s0 h0 a0 b0 e0), (oX3 e0 e1 e2), (aI g e1 36 co), (aI g e2 39 u)]) u) t) A) (by decide) rfl (Nat.le_of_ble_eq_true rfl) ?_
  intro p e s m args below meth c A ls H locs Q hQ hB
  obtain ⟨hx, hb, hr, hml, hown, hts, hlk, hin, hP, hK, hD, hS, hA, hE, hl⟩ := hB
  have hl : lv_has ls 1 [(0, .ref x0)] := hl
  have f39 := hts (.fieldLink RX10 39 "HiredEnemy" "scene" "LHiredEnemy$Scene;") (iwoX10_most (k := 0) rfl)
  have inX10 : ∀ w ∈ wsX100, w ∈ wsX10_most := innX10_most_X10
  have f232 := hts (.fieldLink RX10 232 "HiredEnemy$Scene" "bids" "LHiredEnemy$Bids;") (iwoX10_most (k := 1) rfl)
  have inX8 : ∀ w ∈ wsX80, w ∈ wsX10_most := innX10_most_X8
  refine lv_aload_n hx hb dX10_most_0 rfl (lv_at hl 0 rfl) ?_
  refine va_get (v := .ref s0) (T := TX10) (N := 13) hx hb hts inX10 hown hK hP 0 rfl rfl 7 (by decide) f39 (fun _ h9 => h9) rfl dX10_most_1 ?_
  refine va_get (v := .ref e0) (T := TX8) (N := 4) hx hb hts inX8 hown hK hP 1 rfl rfl 3 (by decide) f232 (fun _ h9 => h9) rfl dX10_most_4 ?_
  refine he_ci (wc := [(oX3 e0 e1 e2), (aI g e1 36 co), (aI g e2 39 re_)]) (wr := [(oX10 x0 y0 ta z0 p0 dr pa to_ s0 im ki tr v0 rf), (oX8 s0 h0 a0 b0 e0)]) (va_runV (As := []) (rest := []) ⟨hx, hb, hml, hown, hts⟩ (s_X3_mostCoin l g e0 e1 e2 co re_ o (by first | assumption | decide | omega) (by first | assumption | decide | omega) (by first | assumption | decide | omega) H.size) (cwV 0 hts gX10_most_X3_mostCoin rfl rfl rfl (by decide +kernel) ⟨Nat.le_of_ble_eq_true rfl, Nat.le_of_ble_eq_true rfl⟩) (he_preV (wc := [(oX3 e0 e1 e2), (aI g e1 36 co), (aI g e2 39 re_)]) hK hP hD hS hA hE [2, 3, 4] rfl rfl 2 rfl rfl) rfl rfl hl.1 rfl (lv_room (Nat.le_of_ble_eq_true rfl)) dX10_most_7 ⟨(Nat.le_of_ble_eq_true rfl), (Nat.le_of_ble_eq_true rfl)⟩) hP hD hS hA [2, 3, 4] [0, 1] rfl rfl rfl (by decide) (fun r_1 u_2 H locs h_3 hP hD hS => ?_)
  obtain ⟨ur_4, rfl⟩ : ∃ z, z = u_2 := ⟨_, rfl⟩
  try dsimp only at h_3
  obtain ⟨rfl, hf_5⟩ := h_3
  have hP : va_P g.1 vwCl [(oX10 x0 y0 ta z0 p0 dr pa to_ s0 im ki tr v0 rf), (oX8 s0 h0 a0 b0 e0), (oX3 e0 e1 e2), (aI g e1 36 co), (aI g e2 39 ur_4)] H := hP
  have hD : va_D A [(oX10 x0 y0 ta z0 p0 dr pa to_ s0 im ki tr v0 rf), (oX8 s0 h0 a0 b0 e0), (oX3 e0 e1 e2), (aI g e1 36 co), (aI g e2 39 ur_4)] := hD
  exact he_ri hQ hx hb hr hlk hP hD hS dX10_most_10 (Nat.le_of_ble_eq_true rfl) (Nat.le_of_ble_eq_true rfl) (ur_4) (rfl) (⟨rfl, hf_5⟩)
set_option maxHeartbeats 4000000 in
set_option maxRecDepth 100000 in
theorem s_X10_serves (l : Launch) (g : he_G) (x0 : Nat) (y0 : Nat) (z0 : Nat) (p0 : Nat) (dr : Nat) (pa : Nat) (s0 : Nat) (im : Nat) (tr : Nat) (v0 : Nat) (rf : Nat) (ta : Int32) (to_ : Int32) (ki : Int32) (h0 : Nat) (a0 : Nat) (b0 : Nat) (e0 : Nat) (e1 : Nat) (e2 : Nat) (co : Nat → Int32) (re_ : Nat → Int32) (j : Nat) (o : Nat → Nat → Nat) (hj : j ≤ 11) (hco : coO co o) (hob : ∀ d m, o d m ≤ 999) (h36 : ∀ b, b < 3 → re_ (36 + b) = 0) : he_I l yX10_serves wsX10_serves 4 91 0 0 g [.ref x0, .int (nI j)] [(oX10 x0 y0 ta z0 p0 dr pa to_ s0 im ki tr v0 rf), (oX8 s0 h0 a0 b0 e0), (oX3 e0 e1 e2), (aI g e1 36 co), (aI g e2 39 re_)] (fun (r : Int32) (u : Nat → Int32) => r = nI (svN o (j + 1)) ∧ reO u o 0) (fun (u : Nat → Int32) => [(oX10 x0 y0 ta z0 p0 dr pa to_ s0 im ki tr v0 rf), (oX8 s0 h0 a0 b0 e0), (oX3 e0 e1 e2), (aI g e1 36 co), (aI g e2 39 u)]) := by
  refine he_begin (l := l) (g := g) (y := yX10_serves) (wl := wsX10_serves) (fr := 4) (lo := 91) (mc := 0) (ms := 0) (av := [.ref x0, .int (nI j)]) (ws := [(oX10 x0 y0 ta z0 p0 dr pa to_ s0 im ki tr v0 rf), (oX8 s0 h0 a0 b0 e0), (oX3 e0 e1 e2), (aI g e1 36 co), (aI g e2 39 re_)]) (cc := cX10_serves) (maxL := 2) (ret := (some .int)) (fun A => va_Qi (fun (r : Int32) (u : Nat → Int32) => r = nI (svN o (j + 1)) ∧ reO u o 0) (fun u t => he_post g A ((fun (u : Nat → Int32) => [(oX10 x0 y0 ta z0 p0 dr pa to_ s0 im ki tr v0 rf), (oX8 s0 h0 a0 b0 e0), (oX3 e0 e1 e2), (aI g e1 36 co), (aI g e2 39 u)]) u) t) A) (by decide) rfl (Nat.le_of_ble_eq_true rfl) ?_
  intro p e s m args below meth c A ls H locs Q hQ hB
  obtain ⟨hx, hb, hr, hml, hown, hts, hlk, hin, hP, hK, hD, hS, hA, hE, hl⟩ := hB
  have hl : lv_has ls 2 [(0, .ref x0), (1, .int (nI j))] := hl
  have f39 := hts (.fieldLink RX10 39 "HiredEnemy" "scene" "LHiredEnemy$Scene;") (iwoX10_serves (k := 0) rfl)
  have inX10 : ∀ w ∈ wsX100, w ∈ wsX10_serves := innX10_serves_X10
  have f232 := hts (.fieldLink RX10 232 "HiredEnemy$Scene" "bids" "LHiredEnemy$Bids;") (iwoX10_serves (k := 1) rfl)
  have inX8 : ∀ w ∈ wsX80, w ∈ wsX10_serves := innX10_serves_X8
  refine lv_aload_n hx hb dX10_serves_0 rfl (lv_at hl 0 rfl) ?_
  refine lv_iload_n hx hb dX10_serves_1 rfl (lv_at hl 1 rfl) ?_
  refine lv_iconst (v := 0) hx hb dX10_serves_2 (by decide) ?_
  refine lv_bipush (v := 11) hx hb dX10_serves_3 (by decide) ?_
  refine he_ci (wc := []) (wr := [(oX10 x0 y0 ta z0 p0 dr pa to_ s0 im ki tr v0 rf), (oX8 s0 h0 a0 b0 e0), (oX3 e0 e1 e2), (aI g e1 36 co), (aI g e2 39 re_)]) (va_runS (As := [.int (nI j), .int 0, .int 11]) (rest := [.ref x0]) ⟨hx, hb, hml, hown, hts⟩ (c_X10_within l g (nI j) 0 11 H.size) (va_cwS 3 hts gX10_serves_X10_within rfl rfl rfl (by decide +kernel) ⟨Nat.le_of_ble_eq_true rfl, Nat.le_of_ble_eq_true rfl⟩) (he_preS (wc := []) hK hP hD hS hA hE [] rfl rfl) rfl rfl hl.1 rfl (lv_room (Nat.le_of_ble_eq_true rfl)) dX10_serves_5 ⟨(Nat.le_of_ble_eq_true rfl), (Nat.le_of_ble_eq_true rfl)⟩) hP hD hS hA [] [0, 1, 2, 3, 4] rfl rfl rfl (by decide) (fun r_1 u_2 H locs h_3 hP hD hS => ?_)
  subst h_3
  have hP : va_P g.1 vwCl [(oX10 x0 y0 ta z0 p0 dr pa to_ s0 im ki tr v0 rf), (oX8 s0 h0 a0 b0 e0), (oX3 e0 e1 e2), (aI g e1 36 co), (aI g e2 39 re_)] H := hP
  have hD : va_D A [(oX10 x0 y0 ta z0 p0 dr pa to_ s0 im ki tr v0 rf), (oX8 s0 h0 a0 b0 e0), (oX3 e0 e1 e2), (aI g e1 36 co), (aI g e2 39 re_)] := hD
  refine he_top (1) (he_within_in (a0 := 0) (B := 11) rfl rfl (by omega) (by omega) (by decide)) ?_
  refine he_cv (wc := []) (wr := [(oX10 x0 y0 ta z0 p0 dr pa to_ s0 im ki tr v0 rf), (oX8 s0 h0 a0 b0 e0), (oX3 e0 e1 e2), (aI g e1 36 co), (aI g e2 39 re_)]) (va_runV (As := [.int 1]) (rest := []) ⟨hx, hb, hml, hown, hts⟩ (c_X10_demand1 l g x0 H.size) (cwV 1 hts gX10_serves_X10_demand rfl rfl rfl (by decide +kernel) ⟨Nat.le_of_ble_eq_true rfl, Nat.le_of_ble_eq_true rfl⟩) (he_preV (wc := []) hK hP hD hS hA hE [] rfl rfl 0 rfl rfl) rfl rfl hl.1 rfl (lv_room (Nat.le_of_ble_eq_true rfl)) dX10_serves_8 ⟨(Nat.le_of_ble_eq_true rfl), (Nat.le_of_ble_eq_true rfl)⟩) hP hD hS hA [] [0, 1, 2, 3, 4] rfl rfl rfl (by decide) (fun u_5 H locs h_6 hP hD hS => ?_)
  have hP : va_P g.1 vwCl [(oX10 x0 y0 ta z0 p0 dr pa to_ s0 im ki tr v0 rf), (oX8 s0 h0 a0 b0 e0), (oX3 e0 e1 e2), (aI g e1 36 co), (aI g e2 39 re_)] H := hP
  have hD : va_D A [(oX10 x0 y0 ta z0 p0 dr pa to_ s0 im ki tr v0 rf), (oX8 s0 h0 a0 b0 e0), (oX3 e0 e1 e2), (aI g e1 36 co), (aI g e2 39 re_)] := hD
  refine lv_aload_n hx hb dX10_serves_11 rfl (lv_at hl 0 rfl) ?_
  refine va_get (v := .ref s0) (T := TX10) (N := 13) hx hb hts inX10 hown hK hP 0 rfl rfl 7 (by decide) f39 (fun _ h9 => h9) rfl dX10_serves_12 ?_
  refine va_get (v := .ref e0) (T := TX8) (N := 4) hx hb hts inX8 hown hK hP 1 rfl rfl 3 (by decide) f232 (fun _ h9 => h9) rfl dX10_serves_15 ?_
  refine lv_iload_n hx hb dX10_serves_18 rfl (lv_at hl 1 rfl) ?_
  refine he_ci (wc := [(oX3 e0 e1 e2), (aI g e1 36 co), (aI g e2 39 re_)]) (wr := [(oX10 x0 y0 ta z0 p0 dr pa to_ s0 im ki tr v0 rf), (oX8 s0 h0 a0 b0 e0)]) (va_runV (As := [.int (nI j)]) (rest := []) ⟨hx, hb, hml, hown, hts⟩ (s_X3_served l g e0 e1 e2 co re_ o j (by first | assumption | decide | omega) (by first | assumption | decide | omega) (by first | assumption | decide | omega) (by first | assumption | decide | omega) H.size) (cwV 1 hts gX10_serves_X3_served rfl rfl rfl (by decide +kernel) ⟨Nat.le_of_ble_eq_true rfl, Nat.le_of_ble_eq_true rfl⟩) (he_preV (wc := [(oX3 e0 e1 e2), (aI g e1 36 co), (aI g e2 39 re_)]) hK hP hD hS hA hE [2, 3, 4] rfl rfl 2 rfl rfl) rfl rfl hl.1 rfl (lv_room (Nat.le_of_ble_eq_true rfl)) dX10_serves_19 ⟨(Nat.le_of_ble_eq_true rfl), (Nat.le_of_ble_eq_true rfl)⟩) hP hD hS hA [2, 3, 4] [0, 1] rfl rfl rfl (by decide) (fun r_7 u_8 H locs h_9 hP hD hS => ?_)
  obtain ⟨ur_10, rfl⟩ : ∃ z, z = u_8 := ⟨_, rfl⟩
  try dsimp only at h_9
  obtain ⟨rfl, hf_11⟩ := h_9
  have hP : va_P g.1 vwCl [(oX10 x0 y0 ta z0 p0 dr pa to_ s0 im ki tr v0 rf), (oX8 s0 h0 a0 b0 e0), (oX3 e0 e1 e2), (aI g e1 36 co), (aI g e2 39 ur_10)] H := hP
  have hD : va_D A [(oX10 x0 y0 ta z0 p0 dr pa to_ s0 im ki tr v0 rf), (oX8 s0 h0 a0 b0 e0), (oX3 e0 e1 e2), (aI g e1 36 co), (aI g e2 39 ur_10)] := hD
  exact he_ri hQ hx hb hr hlk hP hD hS dX10_serves_22 (Nat.le_of_ble_eq_true rfl) (Nat.le_of_ble_eq_true rfl) (ur_10) (rfl) (⟨rfl, hf_11⟩)
