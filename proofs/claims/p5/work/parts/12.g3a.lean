theorem he_ch6 : ∀ k, k < 41 → ((he_w6.getD k 0 &&& 255).toUInt32 % 65536).toInt32 = he_w6.getD k 0 ∧ narrow .char (.int (he_w6.getD k 0)) = .int (he_w6.getD k 0) := by decide +kernel
theorem he_ch5 : ∀ k, k < 39 → ((he_w5.getD k 0 &&& 255).toUInt32 % 65536).toInt32 = he_w5.getD k 0 ∧ narrow .char (.int (he_w5.getD k 0)) = .int (he_w5.getD k 0) := by decide +kernel
theorem sub_sub {a b : Nat} (h : b ≤ a) (ha : a < 2147483648) : nI a - nI b = nI (a - b) := pk_sub h
theorem he_min500 {n : Nat} (h : n ≤ 500) : (if (500 : Int32) < nI n then 500 else nI n) = nI n := by
  rw [if_neg]
  intro h9
  have := (nI_ltI (a := 500) (by decide) (by omega)).mp h9
  omega
def numF (x : Int32) : Int32 := if he_within x 0 7 = 0 then 0 else he_numbers.getD x.toNatClampNeg 0
theorem num_le : ∀ k, k < 8 → (he_numbers.getD k 0).toInt ≤ 3 := by decide +kernel
/-- a place below how many numbers there are: the word is one of the eight, the place below 3 -/
theorem numF_lt {x : Int32} {j : Nat} (hj : j < 2147483648) (h : ¬ numF x ≤ nI j) : ¬ he_within x 0 7 = 0 ∧ j < 3 := by
  unfold numF at h
  split at h
  · exact absurd ((nI_leI (a := 0) (by decide) hj).mpr (Nat.zero_le j)) h
  · rename_i h1
    refine ⟨h1, ?_⟩
    have h2 := num_le _ (Nat.lt_succ_of_le (he_within_nat (B := 7) rfl (by decide) h1).2)
    have h3 := Int32.lt_iff_toInt_lt.mp (Int32.not_le.mp h)
    rw [nI_toInt hj] at h3
    omega
def hiP (x i pw : Int32) : Int32 := if x = 6 then (if i = 0 then pw - 1 else 35) else if he_within x 0 5 = 0 then 0 else he_pacthigh.getD x.toNatClampNeg 0
def loP (x : Int32) : Int32 := if x = 5 then 1 else 0
theorem upd_ge {wb : Nat → Int32} {v : Int32} {i : Nat} (h : ∀ k, k < 36 → -1 ≤ wb k) (hv : -1 ≤ v) : ∀ k, k < 36 → -1 ≤ upd wb i v k := by
  intro k hk
  unfold upd
  split
  · exact hv
  · exact h k hk
theorem upd_3 {pd : Nat → Int32} {x v : Int32} (h : ∃ ck, ck ≤ 99 ∧ pd 3 = nI ck) (hx : x = nI x.toNatClampNeg) (hv : x = 3 → ∃ ck, ck ≤ 99 ∧ v = nI ck) : ∃ ck, ck ≤ 99 ∧ upd pd x.toNatClampNeg v 3 = nI ck := by
  unfold upd
  split
  · rename_i h9
    exact hv (by rw [hx, ← h9]; rfl)
  · exact h
set_option maxHeartbeats 4000000 in
set_option maxRecDepth 100000 in
theorem g_J3_checkIndexN (l : Launch) (g : he_G) (k : Nat) (n : Nat) (hk : k < n) (hn : n < 2147483648) : he_I l yJ3_checkIndex_8e157 wsJ3_checkIndex_8e157 0 0 0 0 g [.int (nI k), .int (nI n), .null] [] (fun (r : Int32) (u : Unit) => r = nI k) (fun (u : Unit) => []) := by
  refine he_begin (l := l) (g := g) (y := yJ3_checkIndex_8e157) (wl := wsJ3_checkIndex_8e157) (fr := 0) (lo := 0) (mc := 0) (ms := 0) (av := [.int (nI k), .int (nI n), .null]) (ws := []) (cc := cJ3_checkIndex_8e157) (maxL := 3) (ret := (some .int)) (fun A => va_Qi (fun (r : Int32) (u : Unit) => r = nI k) (fun u t => he_post g A ((fun (u : Unit) => []) u) t) A) (by decide) rfl (Nat.le_of_ble_eq_true rfl) ?_
  intro p e s m args below meth c A ls H locs Q hQ hB
  obtain ⟨hx, hb, hr, hml, hown, hts, hlk, hin, hP, hK, hD, hS, hA, hE, hl⟩ := hB
  have hl : lv_has ls 3 [(0, .int (nI k)), (1, .int (nI n)), (2, .null)] := hl
  refine lv_iload_n hx hb dJ3_checkIndex_8e157_0 rfl (lv_at hl 0 rfl) ?_
  refine lv_if_lt (tgt := 9) hx hb dJ3_checkIndex_8e157_1 (by decide) (fun c_1 => ?_) (fun c_1 => ?_)
  · exact absurd c_1 (nI_pos (by omega))
  · refine lv_iload_n hx hb dJ3_checkIndex_8e157_4 rfl (lv_at hl 0 rfl) ?_
    refine lv_iload_n hx hb dJ3_checkIndex_8e157_5 rfl (lv_at hl 1 rfl) ?_
    refine lv_icmp_lt (tgt := 16) hx hb dJ3_checkIndex_8e157_6 (by decide) (fun c_2 => ?_) (fun c_2 => ?_)
    · refine lv_iload_n hx hb dJ3_checkIndex_8e157_16 rfl (lv_at hl 0 rfl) ?_
      exact he_ri hQ hx hb hr hlk hP hD hS dJ3_checkIndex_8e157_17 (Nat.le_of_ble_eq_true rfl) (Nat.le_of_ble_eq_true rfl) (()) (rfl) (rfl)
    · exact absurd ((nI_ltI (by omega) (by omega)).mpr hk) c_2
set_option maxHeartbeats 4000000 in
set_option maxRecDepth 100000 in
theorem g_J3_checkIndexR (l : Launch) (g : he_G) (k : Nat) (n : Nat) (t : Nat) (hk : k < n) (hn : n < 2147483648) : he_I l yJ3_checkIndex_8e157 wsJ3_checkIndex_8e157 0 0 0 0 g [.int (nI k), .int (nI n), .ref t] [] (fun (r : Int32) (u : Unit) => r = nI k) (fun (u : Unit) => []) := by
  refine he_begin (l := l) (g := g) (y := yJ3_checkIndex_8e157) (wl := wsJ3_checkIndex_8e157) (fr := 0) (lo := 0) (mc := 0) (ms := 0) (av := [.int (nI k), .int (nI n), .ref t]) (ws := []) (cc := cJ3_checkIndex_8e157) (maxL := 3) (ret := (some .int)) (fun A => va_Qi (fun (r : Int32) (u : Unit) => r = nI k) (fun u t => he_post g A ((fun (u : Unit) => []) u) t) A) (by decide) rfl (Nat.le_of_ble_eq_true rfl) ?_
  intro p e s m args below meth c A ls H locs Q hQ hB
  obtain ⟨hx, hb, hr, hml, hown, hts, hlk, hin, hP, hK, hD, hS, hA, hE, hl⟩ := hB
  have hl : lv_has ls 3 [(0, .int (nI k)), (1, .int (nI n)), (2, .ref t)] := hl
  refine lv_iload_n hx hb dJ3_checkIndex_8e157_0 rfl (lv_at hl 0 rfl) ?_
  refine lv_if_lt (tgt := 9) hx hb dJ3_checkIndex_8e157_1 (by decide) (fun c_1 => ?_) (fun c_1 => ?_)
  · exact absurd c_1 (nI_pos (by omega))
  · refine lv_iload_n hx hb dJ3_checkIndex_8e157_4 rfl (lv_at hl 0 rfl) ?_
    refine lv_iload_n hx hb dJ3_checkIndex_8e157_5 rfl (lv_at hl 1 rfl) ?_
    refine lv_icmp_lt (tgt := 16) hx hb dJ3_checkIndex_8e157_6 (by decide) (fun c_2 => ?_) (fun c_2 => ?_)
    · refine lv_iload_n hx hb dJ3_checkIndex_8e157_16 rfl (lv_at hl 0 rfl) ?_
      exact he_ri hQ hx hb hr hlk hP hD hS dJ3_checkIndex_8e157_17 (Nat.le_of_ble_eq_true rfl) (Nat.le_of_ble_eq_true rfl) (()) (rfl) (rfl)
    · exact absurd ((nI_ltI (by omega) (by omega)).mpr hk) c_2
set_option maxHeartbeats 4000000 in
set_option maxRecDepth 100000 in
theorem g_J0_checkIndex (l : Launch) (g : he_G) (k : Nat) (n : Nat) (hk : k < n) (hn : n < 2147483648) : he_V l yJ0_checkIndex_df160 wsJ0_checkIndex_df160 1 22 0 0 g [.int (nI k), .int (nI n)] [] (fun (u : Unit) => True) (fun (u : Unit) => []) := by
  refine he_begin (l := l) (g := g) (y := yJ0_checkIndex_df160) (wl := wsJ0_checkIndex_df160) (fr := 1) (lo := 22) (mc := 0) (ms := 0) (av := [.int (nI k), .int (nI n)]) (ws := []) (cc := cJ0_checkIndex_df160) (maxL := 2) (ret := none) (fun A => va_Qv (fun (u : Unit) => True) (fun u t => he_post g A ((fun (u : Unit) => []) u) t) A) (by decide) rfl (Nat.le_of_ble_eq_true rfl) ?_
  intro p e s m args below meth c A ls H locs Q hQ hB
  obtain ⟨hx, hb, hr, hml, hown, hts, hlk, hin, hP, hK, hD, hS, hA, hE, hl⟩ := hB
  have hl : lv_has ls 2 [(0, .int (nI k)), (1, .int (nI n))] := hl
  have f1053 := hts (.fieldLink RJ0 1053 "jdk/internal/util/Preconditions" "SIOOBE_FORMATTER" "Ljava/util/function/BiFunction;") (iwoJ0_checkIndex_df160 (k := 0) rfl)
  refine lv_iload_n hx hb dJ0_checkIndex_df160_0 rfl (lv_at hl 0 rfl) ?_
  refine lv_iload_n hx hb dJ0_checkIndex_df160_1 rfl (lv_at hl 1 rfl) ?_
  obtain hZ9 | ⟨t9, hZ9⟩ := hE.words.1.2
  · refine va_gets hx hb hZ9 hS hown f1053 (fun _ h9 => h9) dJ0_checkIndex_df160_2 ?_
    refine he_ci (wc := []) (wr := []) (va_runS (As := [.int (nI k), .int (nI n), .null]) (rest := []) ⟨hx, hb, hml, hown, hts⟩ (g_J3_checkIndexN l g k n (by first | assumption | decide | omega) (by first | assumption | decide | omega) H.size) (va_cwS 3 hts gJ0_checkIndex_df160_J3_checkIndex_8e157 rfl rfl rfl (by decide +kernel) ⟨Nat.le_of_ble_eq_true rfl, Nat.le_of_ble_eq_true rfl⟩) (he_preS (wc := []) hK hP hD hS hA hE [] rfl rfl) rfl rfl hl.1 rfl (lv_room (Nat.le_of_ble_eq_true rfl)) dJ0_checkIndex_df160_5 ⟨(Nat.le_of_ble_eq_true rfl), (Nat.le_of_ble_eq_true rfl)⟩) hP hD hS hA [] [] rfl rfl rfl (by decide) (fun r_1 u_2 H locs h_3 hP hD hS => ?_)
    subst h_3
    have hP : va_P g.1 vwCl [] H := hP
    have hD : va_D A [] := hD
    refine lv_pop hx hb dJ0_checkIndex_df160_8 rfl ?_
    exact he_rv hQ hx hb hr hlk hP hD hS dJ0_checkIndex_df160_9 (Nat.le_of_ble_eq_true rfl) (Nat.le_of_ble_eq_true rfl) (()) (rfl) (trivial)
  · refine va_gets hx hb hZ9 hS hown f1053 (fun _ h9 => h9) dJ0_checkIndex_df160_2 ?_
    refine he_ci (wc := []) (wr := []) (va_runS (As := [.int (nI k), .int (nI n), .ref t9]) (rest := []) ⟨hx, hb, hml, hown, hts⟩ (g_J3_checkIndexR l g k n t9 (by first | assumption | decide | omega) (by first | assumption | decide | omega) H.size) (va_cwS 3 hts gJ0_checkIndex_df160_J3_checkIndex_8e157 rfl rfl rfl (by decide +kernel) ⟨Nat.le_of_ble_eq_true rfl, Nat.le_of_ble_eq_true rfl⟩) (he_preS (wc := []) hK hP hD hS hA hE [] rfl rfl) rfl rfl hl.1 rfl (lv_room (Nat.le_of_ble_eq_true rfl)) dJ0_checkIndex_df160_5 ⟨(Nat.le_of_ble_eq_true rfl), (Nat.le_of_ble_eq_true rfl)⟩) hP hD hS hA [] [] rfl rfl rfl (by decide) (fun r_4 u_5 H locs h_6 hP hD hS => ?_)
    subst h_6
    have hP : va_P g.1 vwCl [] H := hP
    have hD : va_D A [] := hD
    refine lv_pop hx hb dJ0_checkIndex_df160_8 rfl ?_
    exact he_rv hQ hx hb hr hlk hP hD hS dJ0_checkIndex_df160_9 (Nat.le_of_ble_eq_true rfl) (Nat.le_of_ble_eq_true rfl) (()) (rfl) (trivial)
set_option maxHeartbeats 4000000 in
set_option maxRecDepth 100000 in
theorem g_J0_coder6 (l : Launch) (g : he_G)   : he_I l yJ0_coder_7d493 wsJ0_coder_7d493 0 0 0 0 g [.ref (g.2 10)] [] (fun (r : Int32) (u : Unit) => r = 0) (fun (u : Unit) => []) := by
  refine he_begin (l := l) (g := g) (y := yJ0_coder_7d493) (wl := wsJ0_coder_7d493) (fr := 0) (lo := 0) (mc := 0) (ms := 0) (av := [.ref (g.2 10)]) (ws := []) (cc := cJ0_coder_7d493) (maxL := 1) (ret := (some .byte)) (fun A => va_Qi (fun (r : Int32) (u : Unit) => r = 0) (fun u t => he_post g A ((fun (u : Unit) => []) u) t) A) (by decide) rfl (Nat.le_of_ble_eq_true rfl) ?_
  intro p e s m args below meth c A ls H locs Q hQ hB
  obtain ⟨hx, hb, hr, hml, hown, hts, hlk, hin, hP, hK, hD, hS, hA, hE, hl⟩ := hB
  have hl : lv_has ls 1 [(0, .ref (g.2 10))] := hl
  have f38 := hts (.fieldLink RJ0 38 "java/lang/String" "COMPACT_STRINGS" "Z") (iwoJ0_coder_7d493 (k := 0) rfl)
  have f15 := hts (.fieldLink RJ0 15 "java/lang/String" "coder" "B") (iwoJ0_coder_7d493 (k := 1) rfl)
  refine va_gets hx hb hE.words.1.1 hS hown f38 (fun _ h9 => h9) dJ0_coder_7d493_0 ?_
  refine lv_if_eq (tgt := 13) hx hb dJ0_coder_7d493_3 (by decide) (fun c_1 => ?_) (fun c_1 => ?_)
  · exact absurd c_1 (by decide)
  · refine lv_aload_n hx hb dJ0_coder_7d493_6 rfl (lv_at hl 0 rfl) ?_
    refine vk_getf (v := .int 0) hx hb hE.words.2.1.2.2.1 hS hown f15 (fun _ h9 => h9) dJ0_coder_7d493_7 ?_
    refine lv_goto (tgt := 14) hx hb dJ0_coder_7d493_10 (by decide) ?_
    exact he_rn hQ hx hb hr hlk hP hD hS dJ0_coder_7d493_14 (Nat.le_of_ble_eq_true rfl) (Nat.le_of_ble_eq_true rfl) rfl (()) (rfl) (rfl)
set_option maxHeartbeats 4000000 in
set_option maxRecDepth 100000 in
theorem g_J0_length6 (l : Launch) (g : he_G)   : he_I l yJ0_length_8abf5 wsJ0_length_8abf5 1 20 0 0 g [.ref (g.2 10)] [] (fun (r : Int32) (u : Unit) => r = 41) (fun (u : Unit) => []) := by
  refine he_begin (l := l) (g := g) (y := yJ0_length_8abf5) (wl := wsJ0_length_8abf5) (fr := 1) (lo := 20) (mc := 0) (ms := 0) (av := [.ref (g.2 10)]) (ws := []) (cc := cJ0_length_8abf5) (maxL := 1) (ret := (some .int)) (fun A => va_Qi (fun (r : Int32) (u : Unit) => r = 41) (fun u t => he_post g A ((fun (u : Unit) => []) u) t) A) (by decide) rfl (Nat.le_of_ble_eq_true rfl) ?_
  intro p e s m args below meth c A ls H locs Q hQ hB
  obtain ⟨hx, hb, hr, hml, hown, hts, hlk, hin, hP, hK, hD, hS, hA, hE, hl⟩ := hB
  have hl : lv_has ls 1 [(0, .ref (g.2 10))] := hl
  have f9 := hts (.fieldLink RJ0 9 "java/lang/String" "value" "[B") (iwoJ0_length_8abf5 (k := 0) rfl)
  refine lv_aload_n hx hb dJ0_length_8abf5_0 rfl (lv_at hl 0 rfl) ?_
  refine vk_getf (v := .ref (g.2 20)) hx hb hE.words.2.1.2.2.2.1 hS hown f9 (fun _ h9 => h9) dJ0_length_8abf5_1 ?_
  refine va_tlen (v := 41) hx hb hE.words.2.1.2.2.2.2 hS (by decide) dJ0_length_8abf5_4 ?_
  refine lv_aload_n hx hb dJ0_length_8abf5_5 rfl (lv_at hl 0 rfl) ?_
  refine he_ci (wc := []) (wr := []) (va_runV (As := []) (rest := [.int 41]) ⟨hx, hb, hml, hown, hts⟩ (g_J0_coder6 l g  H.size) (cwV 0 hts gJ0_length_8abf5_J0_coder_7d493 rfl rfl rfl (by decide +kernel) ⟨Nat.le_of_ble_eq_true rfl, Nat.le_of_ble_eq_true rfl⟩) (he_preO (wc := []) hK hP hD hS hA hE [] rfl rfl hE.words.2.1.2.1) rfl rfl hl.1 rfl (lv_room (Nat.le_of_ble_eq_true rfl)) dJ0_length_8abf5_6 ⟨(Nat.le_of_ble_eq_true rfl), (Nat.le_of_ble_eq_true rfl)⟩) hP hD hS hA [] [] rfl rfl rfl (by decide) (fun r_1 u_2 H locs h_3 hP hD hS => ?_)
  subst h_3
  have hP : va_P g.1 vwCl [] H := hP
  have hD : va_D A [] := hD
  refine lv_ishr hx hb dJ0_length_8abf5_9 ?_
  refine he_top (41) (by decide) ?_
  exact he_ri hQ hx hb hr hlk hP hD hS dJ0_length_8abf5_10 (Nat.le_of_ble_eq_true rfl) (Nat.le_of_ble_eq_true rfl) (()) (rfl) (rfl)
set_option maxHeartbeats 4000000 in
set_option maxRecDepth 100000 in
theorem g_J0_isLatin6 (l : Launch) (g : he_G)   : he_I l yJ0_isLatin1_aae02 wsJ0_isLatin1_aae02 0 0 0 0 g [.ref (g.2 10)] [] (fun (r : Int32) (u : Unit) => r = 1) (fun (u : Unit) => []) := by
  refine he_begin (l := l) (g := g) (y := yJ0_isLatin1_aae02) (wl := wsJ0_isLatin1_aae02) (fr := 0) (lo := 0) (mc := 0) (ms := 0) (av := [.ref (g.2 10)]) (ws := []) (cc := cJ0_isLatin1_aae02) (maxL := 1) (ret := (some .boolean)) (fun A => va_Qi (fun (r : Int32) (u : Unit) => r = 1) (fun u t => he_post g A ((fun (u : Unit) => []) u) t) A) (by decide) rfl (Nat.le_of_ble_eq_true rfl) ?_
  intro p e s m args below meth c A ls H locs Q hQ hB
  obtain ⟨hx, hb, hr, hml, hown, hts, hlk, hin, hP, hK, hD, hS, hA, hE, hl⟩ := hB
  have hl : lv_has ls 1 [(0, .ref (g.2 10))] := hl
  have f38 := hts (.fieldLink RJ0 38 "java/lang/String" "COMPACT_STRINGS" "Z") (iwoJ0_isLatin1_aae02 (k := 0) rfl)
  have f15 := hts (.fieldLink RJ0 15 "java/lang/String" "coder" "B") (iwoJ0_isLatin1_aae02 (k := 1) rfl)
  refine va_gets hx hb hE.words.1.1 hS hown f38 (fun _ h9 => h9) dJ0_isLatin1_aae02_0 ?_
  refine lv_if_eq (tgt := 17) hx hb dJ0_isLatin1_aae02_3 (by decide) (fun c_1 => ?_) (fun c_1 => ?_)
  · exact absurd c_1 (by decide)
  · refine lv_aload_n hx hb dJ0_isLatin1_aae02_6 rfl (lv_at hl 0 rfl) ?_
    refine vk_getf (v := .int 0) hx hb hE.words.2.1.2.2.1 hS hown f15 (fun _ h9 => h9) dJ0_isLatin1_aae02_7 ?_
    refine lv_if_ne (tgt := 17) hx hb dJ0_isLatin1_aae02_10 (by decide) (fun c_2 => ?_) (fun c_2 => ?_)
    · exact absurd (by decide) c_2
    · refine lv_iconst (v := 1) hx hb dJ0_isLatin1_aae02_13 (by decide) ?_
      refine lv_goto (tgt := 18) hx hb dJ0_isLatin1_aae02_14 (by decide) ?_
      exact he_rz hQ hx hb hr hlk hP hD hS dJ0_isLatin1_aae02_18 (Nat.le_of_ble_eq_true rfl) (Nat.le_of_ble_eq_true rfl) rfl (()) (rfl) (rfl)
set_option maxHeartbeats 4000000 in
set_option maxRecDepth 100000 in
theorem g_J1_charAt6 (l : Launch) (g : he_G) (k : Nat) (hk : k < 41) : he_I l yJ1_charAt_3b067 wsJ1_charAt_3b067 2 43 0 0 g [.ref (g.2 20), .int (nI k)] [] (fun (r : Int32) (u : Unit) => r = he_w6.getD k 0) (fun (u : Unit) => []) := by
  refine he_begin (l := l) (g := g) (y := yJ1_charAt_3b067) (wl := wsJ1_charAt_3b067) (fr := 2) (lo := 43) (mc := 0) (ms := 0) (av := [.ref (g.2 20), .int (nI k)]) (ws := []) (cc := cJ1_charAt_3b067) (maxL := 2) (ret := (some .char)) (fun A => va_Qi (fun (r : Int32) (u : Unit) => r = he_w6.getD k 0) (fun u t => he_post g A ((fun (u : Unit) => []) u) t) A) (by decide) rfl (Nat.le_of_ble_eq_true rfl) ?_
  intro p e s m args below meth c A ls H locs Q hQ hB
  obtain ⟨hx, hb, hr, hml, hown, hts, hlk, hin, hP, hK, hD, hS, hA, hE, hl⟩ := hB
  have hl : lv_has ls 2 [(0, .ref (g.2 20)), (1, .int (nI k))] := hl
  refine lv_iload_n hx hb dJ1_charAt_3b067_0 rfl (lv_at hl 1 rfl) ?_
  refine lv_aload_n hx hb dJ1_charAt_3b067_1 rfl (lv_at hl 0 rfl) ?_
  refine va_tlen (v := 41) hx hb hE.words.2.1.2.2.2.2 hS (by decide) dJ1_charAt_3b067_2 ?_
  refine he_cv (wc := []) (wr := []) (va_runS (As := [.int (nI k), .int 41]) (rest := []) ⟨hx, hb, hml, hown, hts⟩ (g_J0_checkIndex l g k 41 (by first | assumption | decide | omega) (by first | assumption | decide | omega) H.size) (va_cwS 2 hts gJ1_charAt_3b067_J0_checkIndex_df160 rfl rfl rfl (by decide +kernel) ⟨Nat.le_of_ble_eq_true rfl, Nat.le_of_ble_eq_true rfl⟩) (he_preS (wc := []) hK hP hD hS hA hE [] rfl rfl) rfl rfl hl.1 rfl (lv_room (Nat.le_of_ble_eq_true rfl)) dJ1_charAt_3b067_3 ⟨(Nat.le_of_ble_eq_true rfl), (Nat.le_of_ble_eq_true rfl)⟩) hP hD hS hA [] [] rfl rfl rfl (by decide) (fun u_2 H locs h_3 hP hD hS => ?_)
  have hP : va_P g.1 vwCl [] H := hP
  have hD : va_D A [] := hD
  refine lv_aload_n hx hb dJ1_charAt_3b067_6 rfl (lv_at hl 0 rfl) ?_
  refine lv_iload_n hx hb dJ1_charAt_3b067_7 rfl (lv_at hl 1 rfl) ?_
  refine he_tbld hx hb hE.words.2.1.2.2.2.2 hS (k) rfl (by first | assumption | decide | omega) (by decide) (he_w6.getD k 0) rfl dJ1_charAt_3b067_8 ?_
  refine lv_sipush (v := 255) hx hb dJ1_charAt_3b067_9 (by decide) ?_
  refine lv_iand hx hb dJ1_charAt_3b067_12 ?_
  refine lv_i2c (v := he_w6.getD k 0) hx hb dJ1_charAt_3b067_13 (he_ch6 k hk).1 ?_
  exact he_rn hQ hx hb hr hlk hP hD hS dJ1_charAt_3b067_14 (Nat.le_of_ble_eq_true rfl) (Nat.le_of_ble_eq_true rfl) (he_ch6 k hk).2 (()) (rfl) (rfl)
set_option maxHeartbeats 4000000 in
set_option maxRecDepth 100000 in
theorem g_J0_charAt6 (l : Launch) (g : he_G) (k : Nat) (hk : k < 41) : he_I l yJ0_charAt_5068e wsJ0_charAt_5068e 3 64 0 0 g [.ref (g.2 10), .int (nI k)] [] (fun (r : Int32) (u : Unit) => r = he_w6.getD k 0) (fun (u : Unit) => []) := by
  refine he_begin (l := l) (g := g) (y := yJ0_charAt_5068e) (wl := wsJ0_charAt_5068e) (fr := 3) (lo := 64) (mc := 0) (ms := 0) (av := [.ref (g.2 10), .int (nI k)]) (ws := []) (cc := cJ0_charAt_5068e) (maxL := 2) (ret := (some .char)) (fun A => va_Qi (fun (r : Int32) (u : Unit) => r = he_w6.getD k 0) (fun u t => he_post g A ((fun (u : Unit) => []) u) t) A) (by decide) rfl (Nat.le_of_ble_eq_true rfl) ?_
  intro p e s m args below meth c A ls H locs Q hQ hB
  obtain ⟨hx, hb, hr, hml, hown, hts, hlk, hin, hP, hK, hD, hS, hA, hE, hl⟩ := hB
  have hl : lv_has ls 2 [(0, .ref (g.2 10)), (1, .int (nI k))] := hl
  have f9 := hts (.fieldLink RJ0 9 "java/lang/String" "value" "[B") (iwoJ0_charAt_5068e (k := 0) rfl)
  refine lv_aload_n hx hb dJ0_charAt_5068e_0 rfl (lv_at hl 0 rfl) ?_
  refine he_ci (wc := []) (wr := []) (va_runV (As := []) (rest := []) ⟨hx, hb, hml, hown, hts⟩ (g_J0_isLatin6 l g  H.size) (cwV 0 hts gJ0_charAt_5068e_J0_isLatin1_aae02 rfl rfl rfl (by decide +kernel) ⟨Nat.le_of_ble_eq_true rfl, Nat.le_of_ble_eq_true rfl⟩) (he_preO (wc := []) hK hP hD hS hA hE [] rfl rfl hE.words.2.1.2.1) rfl rfl hl.1 rfl (lv_room (Nat.le_of_ble_eq_true rfl)) dJ0_charAt_5068e_1 ⟨(Nat.le_of_ble_eq_true rfl), (Nat.le_of_ble_eq_true rfl)⟩) hP hD hS hA [] [] rfl rfl rfl (by decide) (fun r_1 u_2 H locs h_3 hP hD hS => ?_)
  subst h_3
  have hP : va_P g.1 vwCl [] H := hP
  have hD : va_D A [] := hD
  refine lv_if_eq (tgt := 16) hx hb dJ0_charAt_5068e_4 (by decide) (fun c_4 => ?_) (fun c_4 => ?_)
  · exact absurd c_4 (by decide)
  · refine lv_aload_n hx hb dJ0_charAt_5068e_7 rfl (lv_at hl 0 rfl) ?_
    refine vk_getf (v := .ref (g.2 20)) hx hb hE.words.2.1.2.2.2.1 hS hown f9 (fun _ h9 => h9) dJ0_charAt_5068e_8 ?_
    refine lv_iload_n hx hb dJ0_charAt_5068e_11 rfl (lv_at hl 1 rfl) ?_
    refine he_ci (wc := []) (wr := []) (va_runS (As := [.ref (g.2 20), .int (nI k)]) (rest := []) ⟨hx, hb, hml, hown, hts⟩ (g_J1_charAt6 l g k (by first | assumption | decide | omega) H.size) (va_cwS 2 hts gJ0_charAt_5068e_J1_charAt_3b067 rfl rfl rfl (by decide +kernel) ⟨Nat.le_of_ble_eq_true rfl, Nat.le_of_ble_eq_true rfl⟩) (he_preS (wc := []) hK hP hD hS hA hE [] rfl rfl) rfl rfl hl.1 rfl (lv_room (Nat.le_of_ble_eq_true rfl)) dJ0_charAt_5068e_12 ⟨(Nat.le_of_ble_eq_true rfl), (Nat.le_of_ble_eq_true rfl)⟩) hP hD hS hA [] [] rfl rfl rfl (by decide) (fun r_5 u_6 H locs h_7 hP hD hS => ?_)
    subst h_7
    have hP : va_P g.1 vwCl [] H := hP
    have hD : va_D A [] := hD
    exact he_rn hQ hx hb hr hlk hP hD hS dJ0_charAt_5068e_15 (Nat.le_of_ble_eq_true rfl) (Nat.le_of_ble_eq_true rfl) (he_ch6 k hk).2 (()) (rfl) (rfl)
set_option maxHeartbeats 4000000 in
set_option maxRecDepth 100000 in
theorem g_J0_coder5 (l : Launch) (g : he_G)   : he_I l yJ0_coder_7d493 wsJ0_coder_7d493 0 0 0 0 g [.ref (g.2 11)] [] (fun (r : Int32) (u : Unit) => r = 0) (fun (u : Unit) => []) := by
  refine he_begin (l := l) (g := g) (y := yJ0_coder_7d493) (wl := wsJ0_coder_7d493) (fr := 0) (lo := 0) (mc := 0) (ms := 0) (av := [.ref (g.2 11)]) (ws := []) (cc := cJ0_coder_7d493) (maxL := 1) (ret := (some .byte)) (fun A => va_Qi (fun (r : Int32) (u : Unit) => r = 0) (fun u t => he_post g A ((fun (u : Unit) => []) u) t) A) (by decide) rfl (Nat.le_of_ble_eq_true rfl) ?_
  intro p e s m args below meth c A ls H locs Q hQ hB
  obtain ⟨hx, hb, hr, hml, hown, hts, hlk, hin, hP, hK, hD, hS, hA, hE, hl⟩ := hB
  have hl : lv_has ls 1 [(0, .ref (g.2 11))] := hl
  have f38 := hts (.fieldLink RJ0 38 "java/lang/String" "COMPACT_STRINGS" "Z") (iwoJ0_coder_7d493 (k := 0) rfl)
  have f15 := hts (.fieldLink RJ0 15 "java/lang/String" "coder" "B") (iwoJ0_coder_7d493 (k := 1) rfl)
  refine va_gets hx hb hE.words.1.1 hS hown f38 (fun _ h9 => h9) dJ0_coder_7d493_0 ?_
  refine lv_if_eq (tgt := 13) hx hb dJ0_coder_7d493_3 (by decide) (fun c_1 => ?_) (fun c_1 => ?_)
  · exact absurd c_1 (by decide)
  · refine lv_aload_n hx hb dJ0_coder_7d493_6 rfl (lv_at hl 0 rfl) ?_
    refine vk_getf (v := .int 0) hx hb hE.words.2.2.2.2.1 hS hown f15 (fun _ h9 => h9) dJ0_coder_7d493_7 ?_
    refine lv_goto (tgt := 14) hx hb dJ0_coder_7d493_10 (by decide) ?_
    exact he_rn hQ hx hb hr hlk hP hD hS dJ0_coder_7d493_14 (Nat.le_of_ble_eq_true rfl) (Nat.le_of_ble_eq_true rfl) rfl (()) (rfl) (rfl)
set_option maxHeartbeats 4000000 in
set_option maxRecDepth 100000 in
theorem g_J0_length5 (l : Launch) (g : he_G)   : he_I l yJ0_length_8abf5 wsJ0_length_8abf5 1 20 0 0 g [.ref (g.2 11)] [] (fun (r : Int32) (u : Unit) => r = 39) (fun (u : Unit) => []) := by
  refine he_begin (l := l) (g := g) (y := yJ0_length_8abf5) (wl := wsJ0_length_8abf5) (fr := 1) (lo := 20) (mc := 0) (ms := 0) (av := [.ref (g.2 11)]) (ws := []) (cc := cJ0_length_8abf5) (maxL := 1) (ret := (some .int)) (fun A => va_Qi (fun (r : Int32) (u : Unit) => r = 39) (fun u t => he_post g A ((fun (u : Unit) => []) u) t) A) (by decide) rfl (Nat.le_of_ble_eq_true rfl) ?_
  intro p e s m args below meth c A ls H locs Q hQ hB
  obtain ⟨hx, hb, hr, hml, hown, hts, hlk, hin, hP, hK, hD, hS, hA, hE, hl⟩ := hB
  have hl : lv_has ls 1 [(0, .ref (g.2 11))] := hl
  have f9 := hts (.fieldLink RJ0 9 "java/lang/String" "value" "[B") (iwoJ0_length_8abf5 (k := 0) rfl)
  refine lv_aload_n hx hb dJ0_length_8abf5_0 rfl (lv_at hl 0 rfl) ?_
  refine vk_getf (v := .ref (g.2 21)) hx hb hE.words.2.2.2.2.2.1 hS hown f9 (fun _ h9 => h9) dJ0_length_8abf5_1 ?_
  refine va_tlen (v := 39) hx hb hE.words.2.2.2.2.2.2 hS (by decide) dJ0_length_8abf5_4 ?_
  refine lv_aload_n hx hb dJ0_length_8abf5_5 rfl (lv_at hl 0 rfl) ?_
  refine he_ci (wc := []) (wr := []) (va_runV (As := []) (rest := [.int 39]) ⟨hx, hb, hml, hown, hts⟩ (g_J0_coder5 l g  H.size) (cwV 0 hts gJ0_length_8abf5_J0_coder_7d493 rfl rfl rfl (by decide +kernel) ⟨Nat.le_of_ble_eq_true rfl, Nat.le_of_ble_eq_true rfl⟩) (he_preO (wc := []) hK hP hD hS hA hE [] rfl rfl hE.words.2.2.2.1) rfl rfl hl.1 rfl (lv_room (Nat.le_of_ble_eq_true rfl)) dJ0_length_8abf5_6 ⟨(Nat.le_of_ble_eq_true rfl), (Nat.le_of_ble_eq_true rfl)⟩) hP hD hS hA [] [] rfl rfl rfl (by decide) (fun r_1 u_2 H locs h_3 hP hD hS => ?_)
  subst h_3
  have hP : va_P g.1 vwCl [] H := hP
  have hD : va_D A [] := hD
  refine lv_ishr hx hb dJ0_length_8abf5_9 ?_
  refine he_top (39) (by decide) ?_
  exact he_ri hQ hx hb hr hlk hP hD hS dJ0_length_8abf5_10 (Nat.le_of_ble_eq_true rfl) (Nat.le_of_ble_eq_true rfl) (()) (rfl) (rfl)
set_option maxHeartbeats 4000000 in
set_option maxRecDepth 100000 in
theorem g_J0_isLatin5 (l : Launch) (g : he_G)   : he_I l yJ0_isLatin1_aae02 wsJ0_isLatin1_aae02 0 0 0 0 g [.ref (g.2 11)] [] (fun (r : Int32) (u : Unit) => r = 1) (fun (u : Unit) => []) := by
  refine he_begin (l := l) (g := g) (y := yJ0_isLatin1_aae02) (wl := wsJ0_isLatin1_aae02) (fr := 0) (lo := 0) (mc := 0) (ms := 0) (av := [.ref (g.2 11)]) (ws := []) (cc := cJ0_isLatin1_aae02) (maxL := 1) (ret := (some .boolean)) (fun A => va_Qi (fun (r : Int32) (u : Unit) => r = 1) (fun u t => he_post g A ((fun (u : Unit) => []) u) t) A) (by decide) rfl (Nat.le_of_ble_eq_true rfl) ?_
  intro p e s m args below meth c A ls H locs Q hQ hB
  obtain ⟨hx, hb, hr, hml, hown, hts, hlk, hin, hP, hK, hD, hS, hA, hE, hl⟩ := hB
  have hl : lv_has ls 1 [(0, .ref (g.2 11))] := hl
  have f38 := hts (.fieldLink RJ0 38 "java/lang/String" "COMPACT_STRINGS" "Z") (iwoJ0_isLatin1_aae02 (k := 0) rfl)
  have f15 := hts (.fieldLink RJ0 15 "java/lang/String" "coder" "B") (iwoJ0_isLatin1_aae02 (k := 1) rfl)
  refine va_gets hx hb hE.words.1.1 hS hown f38 (fun _ h9 => h9) dJ0_isLatin1_aae02_0 ?_
  refine lv_if_eq (tgt := 17) hx hb dJ0_isLatin1_aae02_3 (by decide) (fun c_1 => ?_) (fun c_1 => ?_)
  · exact absurd c_1 (by decide)
  · refine lv_aload_n hx hb dJ0_isLatin1_aae02_6 rfl (lv_at hl 0 rfl) ?_
    refine vk_getf (v := .int 0) hx hb hE.words.2.2.2.2.1 hS hown f15 (fun _ h9 => h9) dJ0_isLatin1_aae02_7 ?_
    refine lv_if_ne (tgt := 17) hx hb dJ0_isLatin1_aae02_10 (by decide) (fun c_2 => ?_) (fun c_2 => ?_)
    · exact absurd (by decide) c_2
    · refine lv_iconst (v := 1) hx hb dJ0_isLatin1_aae02_13 (by decide) ?_
      refine lv_goto (tgt := 18) hx hb dJ0_isLatin1_aae02_14 (by decide) ?_
      exact he_rz hQ hx hb hr hlk hP hD hS dJ0_isLatin1_aae02_18 (Nat.le_of_ble_eq_true rfl) (Nat.le_of_ble_eq_true rfl) rfl (()) (rfl) (rfl)
set_option maxHeartbeats 4000000 in
set_option maxRecDepth 100000 in
theorem g_J1_charAt5 (l : Launch) (g : he_G) (k : Nat) (hk : k < 39) : he_I l yJ1_charAt_3b067 wsJ1_charAt_3b067 2 43 0 0 g [.ref (g.2 21), .int (nI k)] [] (fun (r : Int32) (u : Unit) => r = he_w5.getD k 0) (fun (u : Unit) => []) := by
  refine he_begin (l := l) (g := g) (y := yJ1_charAt_3b067) (wl := wsJ1_charAt_3b067) (fr := 2) (lo := 43) (mc := 0) (ms := 0) (av := [.ref (g.2 21), .int (nI k)]) (ws := []) (cc := cJ1_charAt_3b067) (maxL := 2) (ret := (some .char)) (fun A => va_Qi (fun (r : Int32) (u : Unit) => r = he_w5.getD k 0) (fun u t => he_post g A ((fun (u : Unit) => []) u) t) A) (by decide) rfl (Nat.le_of_ble_eq_true rfl) ?_
  intro p e s m args below meth c A ls H locs Q hQ hB
  obtain ⟨hx, hb, hr, hml, hown, hts, hlk, hin, hP, hK, hD, hS, hA, hE, hl⟩ := hB
  have hl : lv_has ls 2 [(0, .ref (g.2 21)), (1, .int (nI k))] := hl
  refine lv_iload_n hx hb dJ1_charAt_3b067_0 rfl (lv_at hl 1 rfl) ?_
  refine lv_aload_n hx hb dJ1_charAt_3b067_1 rfl (lv_at hl 0 rfl) ?_
  refine va_tlen (v := 39) hx hb hE.words.2.2.2.2.2.2 hS (by decide) dJ1_charAt_3b067_2 ?_
  refine he_cv (wc := []) (wr := []) (va_runS (As := [.int (nI k), .int 39]) (rest := []) ⟨hx, hb, hml, hown, hts⟩ (g_J0_checkIndex l g k 39 (by first | assumption | decide | omega) (by first | assumption | decide | omega) H.size) (va_cwS 2 hts gJ1_charAt_3b067_J0_checkIndex_df160 rfl rfl rfl (by decide +kernel) ⟨Nat.le_of_ble_eq_true rfl, Nat.le_of_ble_eq_true rfl⟩) (he_preS (wc := []) hK hP hD hS hA hE [] rfl rfl) rfl rfl hl.1 rfl (lv_room (Nat.le_of_ble_eq_true rfl)) dJ1_charAt_3b067_3 ⟨(Nat.le_of_ble_eq_true rfl), (Nat.le_of_ble_eq_true rfl)⟩) hP hD hS hA [] [] rfl rfl rfl (by decide) (fun u_2 H locs h_3 hP hD hS => ?_)
  have hP : va_P g.1 vwCl [] H := hP
  have hD : va_D A [] := hD
  refine lv_aload_n hx hb dJ1_charAt_3b067_6 rfl (lv_at hl 0 rfl) ?_
  refine lv_iload_n hx hb dJ1_charAt_3b067_7 rfl (lv_at hl 1 rfl) ?_
  refine he_tbld hx hb hE.words.2.2.2.2.2.2 hS (k) rfl (by first | assumption | decide | omega) (by decide) (he_w5.getD k 0) rfl dJ1_charAt_3b067_8 ?_
  refine lv_sipush (v := 255) hx hb dJ1_charAt_3b067_9 (by decide) ?_
  refine lv_iand hx hb dJ1_charAt_3b067_12 ?_
  refine lv_i2c (v := he_w5.getD k 0) hx hb dJ1_charAt_3b067_13 (he_ch5 k hk).1 ?_
  exact he_rn hQ hx hb hr hlk hP hD hS dJ1_charAt_3b067_14 (Nat.le_of_ble_eq_true rfl) (Nat.le_of_ble_eq_true rfl) (he_ch5 k hk).2 (()) (rfl) (rfl)
set_option maxHeartbeats 4000000 in
set_option maxRecDepth 100000 in
theorem g_J0_charAt5 (l : Launch) (g : he_G) (k : Nat) (hk : k < 39) : he_I l yJ0_charAt_5068e wsJ0_charAt_5068e 3 64 0 0 g [.ref (g.2 11), .int (nI k)] [] (fun (r : Int32) (u : Unit) => r = he_w5.getD k 0) (fun (u : Unit) => []) := by
  refine he_begin (l := l) (g := g) (y := yJ0_charAt_5068e) (wl := wsJ0_charAt_5068e) (fr := 3) (lo := 64) (mc := 0) (ms := 0) (av := [.ref (g.2 11), .int (nI k)]) (ws := []) (cc := cJ0_charAt_5068e) (maxL := 2) (ret := (some .char)) (fun A => va_Qi (fun (r : Int32) (u : Unit) => r = he_w5.getD k 0) (fun u t => he_post g A ((fun (u : Unit) => []) u) t) A) (by decide) rfl (Nat.le_of_ble_eq_true rfl) ?_
  intro p e s m args below meth c A ls H locs Q hQ hB
  obtain ⟨hx, hb, hr, hml, hown, hts, hlk, hin, hP, hK, hD, hS, hA, hE, hl⟩ := hB
  have hl : lv_has ls 2 [(0, .ref (g.2 11)), (1, .int (nI k))] := hl
  have f9 := hts (.fieldLink RJ0 9 "java/lang/String" "value" "[B") (iwoJ0_charAt_5068e (k := 0) rfl)
  refine lv_aload_n hx hb dJ0_charAt_5068e_0 rfl (lv_at hl 0 rfl) ?_
  refine he_ci (wc := []) (wr := []) (va_runV (As := []) (rest := []) ⟨hx, hb, hml, hown, hts⟩ (g_J0_isLatin5 l g  H.size) (cwV 0 hts gJ0_charAt_5068e_J0_isLatin1_aae02 rfl rfl rfl (by decide +kernel) ⟨Nat.le_of_ble_eq_true rfl, Nat.le_of_ble_eq_true rfl⟩) (he_preO (wc := []) hK hP hD hS hA hE [] rfl rfl hE.words.2.2.2.1) rfl rfl hl.1 rfl (lv_room (Nat.le_of_ble_eq_true rfl)) dJ0_charAt_5068e_1 ⟨(Nat.le_of_ble_eq_true rfl), (Nat.le_of_ble_eq_true rfl)⟩) hP hD hS hA [] [] rfl rfl rfl (by decide) (fun r_1 u_2 H locs h_3 hP hD hS => ?_)
  subst h_3
  have hP : va_P g.1 vwCl [] H := hP
  have hD : va_D A [] := hD
  refine lv_if_eq (tgt := 16) hx hb dJ0_charAt_5068e_4 (by decide) (fun c_4 => ?_) (fun c_4 => ?_)
  · exact absurd c_4 (by decide)
  · refine lv_aload_n hx hb dJ0_charAt_5068e_7 rfl (lv_at hl 0 rfl) ?_
    refine vk_getf (v := .ref (g.2 21)) hx hb hE.words.2.2.2.2.2.1 hS hown f9 (fun _ h9 => h9) dJ0_charAt_5068e_8 ?_
    refine lv_iload_n hx hb dJ0_charAt_5068e_11 rfl (lv_at hl 1 rfl) ?_
    refine he_ci (wc := []) (wr := []) (va_runS (As := [.ref (g.2 21), .int (nI k)]) (rest := []) ⟨hx, hb, hml, hown, hts⟩ (g_J1_charAt5 l g k (by first | assumption | decide | omega) H.size) (va_cwS 2 hts gJ0_charAt_5068e_J1_charAt_3b067 rfl rfl rfl (by decide +kernel) ⟨Nat.le_of_ble_eq_true rfl, Nat.le_of_ble_eq_true rfl⟩) (he_preS (wc := []) hK hP hD hS hA hE [] rfl rfl) rfl rfl hl.1 rfl (lv_room (Nat.le_of_ble_eq_true rfl)) dJ0_charAt_5068e_12 ⟨(Nat.le_of_ble_eq_true rfl), (Nat.le_of_ble_eq_true rfl)⟩) hP hD hS hA [] [] rfl rfl rfl (by decide) (fun r_5 u_6 H locs h_7 hP hD hS => ?_)
    subst h_7
    have hP : va_P g.1 vwCl [] H := hP
    have hD : va_D A [] := hD
    exact he_rn hQ hx hb hr hlk hP hD hS dJ0_charAt_5068e_15 (Nat.le_of_ble_eq_true rfl) (Nat.le_of_ble_eq_true rfl) (he_ch5 k hk).2 (()) (rfl) (rfl)
set_option maxHeartbeats 4000000 in
set_option maxRecDepth 100000 in
theorem g_X6_words (l : Launch) (g : he_G) (p0 : Nat) (p1 : Nat) (p2 : Nat) (p3 : Nat) (p4 : Nat) (w : Int32)  : he_O l yX6_words wsX6_words 0 0 0 0 g [.ref p0] [(oX6 p0 p1 p2 p3 p4 w)] (fun (r : Option Nat) (u : Unit) => r = some (g.2 10)) (fun (u : Unit) => [(oX6 p0 p1 p2 p3 p4 w)]) := by
  refine he_begin (l := l) (g := g) (y := yX6_words) (wl := wsX6_words) (fr := 0) (lo := 0) (mc := 0) (ms := 0) (av := [.ref p0]) (ws := [(oX6 p0 p1 p2 p3 p4 w)]) (cc := cX6_words) (maxL := 1) (ret := (some (.object "java/lang/String"))) (fun A => va_Qq (fun (r : Option Nat) (u : Unit) => r = some (g.2 10)) (fun u t => he_post g A ((fun (u : Unit) => [(oX6 p0 p1 p2 p3 p4 w)]) u) t) A) (by decide) rfl (Nat.le_of_ble_eq_true rfl) ?_
  intro p e s m args below meth c A ls H locs Q hQ hB
  obtain ⟨hx, hb, hr, hml, hown, hts, hlk, hin, hP, hK, hD, hS, hA, hE, hl⟩ := hB
  have hl : lv_has ls 1 [(0, .ref p0)] := hl
  refine va_ldcS hx hb hown hE.words.2.1.1 dX6_words_0 ?_
  exact he_ra hQ hx hb hr hlk hP hD hS dX6_words_2 (Nat.le_of_ble_eq_true rfl) (Nat.le_of_ble_eq_true rfl) (Or.inl ⟨_, rfl⟩) (some (g.2 10)) rfl (()) (rfl) (rfl)
set_option maxHeartbeats 4000000 in
set_option maxRecDepth 100000 in
theorem g_X5_words (l : Launch) (g : he_G) (t0 : Nat) (t1 : Nat) (t2 : Nat) (pw : Int32)  : he_O l yX5_words wsX5_words 0 0 0 0 g [.ref t0] [(oX5 t0 t1 t2 pw)] (fun (r : Option Nat) (u : Unit) => r = some (g.2 11)) (fun (u : Unit) => [(oX5 t0 t1 t2 pw)]) := by
  refine he_begin (l := l) (g := g) (y := yX5_words) (wl := wsX5_words) (fr := 0) (lo := 0) (mc := 0) (ms := 0) (av := [.ref t0]) (ws := [(oX5 t0 t1 t2 pw)]) (cc := cX5_words) (maxL := 1) (ret := (some (.object "java/lang/String"))) (fun A => va_Qq (fun (r : Option Nat) (u : Unit) => r = some (g.2 11)) (fun u t => he_post g A ((fun (u : Unit) => [(oX5 t0 t1 t2 pw)]) u) t) A) (by decide) rfl (Nat.le_of_ble_eq_true rfl) ?_
  intro p e s m args below meth c A ls H locs Q hQ hB
  obtain ⟨hx, hb, hr, hml, hown, hts, hlk, hin, hP, hK, hD, hS, hA, hE, hl⟩ := hB
  have hl : lv_has ls 1 [(0, .ref t0)] := hl
  refine va_ldcS hx hb hown hE.words.2.2.1 dX5_words_0 ?_
  exact he_ra hQ hx hb hr hlk hP hD hS dX5_words_2 (Nat.le_of_ble_eq_true rfl) (Nat.le_of_ble_eq_true rfl) (Or.inl ⟨_, rfl⟩) (some (g.2 11)) rfl (()) (rfl) (rfl)
set_option maxHeartbeats 4000000 in
set_option maxRecDepth 100000 in
theorem g_X6_isFull (l : Launch) (g : he_G) (p0 : Nat) (p1 : Nat) (p2 : Nat) (p3 : Nat) (p4 : Nat) (w : Int32) (x : Int32)  : he_I l yX6_isFull wsX6_isFull 0 0 0 0 g [.ref p0, .int x] [(oX6 p0 p1 p2 p3 p4 w)] (fun (r : Int32) (u : Unit) => True) (fun (u : Unit) => [(oX6 p0 p1 p2 p3 p4 w)]) := by
  refine he_begin (l := l) (g := g) (y := yX6_isFull) (wl := wsX6_isFull) (fr := 0) (lo := 0) (mc := 0) (ms := 0) (av := [.ref p0, .int x]) (ws := [(oX6 p0 p1 p2 p3 p4 w)]) (cc := cX6_isFull) (maxL := 2) (ret := (some .boolean)) (fun A => va_Qi (fun (r : Int32) (u : Unit) => True) (fun u t => he_post g A ((fun (u : Unit) => [(oX6 p0 p1 p2 p3 p4 w)]) u) t) A) (by decide) rfl (Nat.le_of_ble_eq_true rfl) ?_
  intro p e s m args below meth c A ls H locs Q hQ hB
  obtain ⟨hx, hb, hr, hml, hown, hts, hlk, hin, hP, hK, hD, hS, hA, hE, hl⟩ := hB
  have hl : lv_has ls 2 [(0, .ref p0), (1, .int x)] := hl
  have f30 := hts (.fieldLink RX6 30 "HiredEnemy$Plan" "walls" "I") (iwoX6_isFull (k := 0) rfl)
  have inX6 : ∀ w ∈ wsX60, w ∈ wsX6_isFull := innX6_isFull_X6
  refine lv_iload_n hx hb dX6_isFull_0 rfl (lv_at hl 1 rfl) ?_
  refine lv_if_ne (tgt := 17) hx hb dX6_isFull_1 (by decide) (fun c_1 => ?_) (fun c_1 => ?_)
  · refine lv_iconst (v := 0) hx hb dX6_isFull_17 (by decide) ?_
    exact he_rz hQ hx hb hr hlk hP hD hS dX6_isFull_18 (Nat.le_of_ble_eq_true rfl) (Nat.le_of_ble_eq_true rfl) rfl (()) (rfl) (trivial)
  · refine lv_aload_n hx hb dX6_isFull_4 rfl (lv_at hl 0 rfl) ?_
    refine va_get (v := .int w) (T := TX6) (N := 5) hx hb hts inX6 hown hK hP 0 rfl rfl 4 (by decide) f30 (fun _ h9 => h9) rfl dX6_isFull_5 ?_
    refine lv_bipush (v := 6) hx hb dX6_isFull_8 (by decide) ?_
    refine lv_icmp_lt (tgt := 17) hx hb dX6_isFull_10 (by decide) (fun c_2 => ?_) (fun c_2 => ?_)
    · refine lv_iconst (v := 0) hx hb dX6_isFull_17 (by decide) ?_
      exact he_rz hQ hx hb hr hlk hP hD hS dX6_isFull_18 (Nat.le_of_ble_eq_true rfl) (Nat.le_of_ble_eq_true rfl) rfl (()) (rfl) (trivial)
    · refine lv_iconst (v := 1) hx hb dX6_isFull_13 (by decide) ?_
      refine lv_goto (tgt := 18) hx hb dX6_isFull_14 (by decide) ?_
      exact he_rz hQ hx hb hr hlk hP hD hS dX6_isFull_18 (Nat.le_of_ble_eq_true rfl) (Nat.le_of_ble_eq_true rfl) rfl (()) (rfl) (trivial)
set_option maxHeartbeats 4000000 in
set_option maxRecDepth 100000 in
theorem g_X5_isFull (l : Launch) (g : he_G) (t0 : Nat) (t1 : Nat) (t2 : Nat) (pw : Int32) (x : Int32)  : he_I l yX5_isFull wsX5_isFull 0 0 0 0 g [.ref t0, .int x] [(oX5 t0 t1 t2 pw)] (fun (r : Int32) (u : Unit) => True) (fun (u : Unit) => [(oX5 t0 t1 t2 pw)]) := by
  refine he_begin (l := l) (g := g) (y := yX5_isFull) (wl := wsX5_isFull) (fr := 0) (lo := 0) (mc := 0) (ms := 0) (av := [.ref t0, .int x]) (ws := [(oX5 t0 t1 t2 pw)]) (cc := cX5_isFull) (maxL := 2) (ret := (some .boolean)) (fun A => va_Qi (fun (r : Int32) (u : Unit) => True) (fun u t => he_post g A ((fun (u : Unit) => [(oX5 t0 t1 t2 pw)]) u) t) A) (by decide) rfl (Nat.le_of_ble_eq_true rfl) ?_
  intro p e s m args below meth c A ls H locs Q hQ hB
  obtain ⟨hx, hb, hr, hml, hown, hts, hlk, hin, hP, hK, hD, hS, hA, hE, hl⟩ := hB
  have hl : lv_has ls 2 [(0, .ref t0), (1, .int x)] := hl
  refine lv_iconst (v := 0) hx hb dX5_isFull_0 (by decide) ?_
  exact he_rz hQ hx hb hr hlk hP hD hS dX5_isFull_1 (Nat.le_of_ble_eq_true rfl) (Nat.le_of_ble_eq_true rfl) rfl (()) (rfl) (trivial)
set_option maxHeartbeats 4000000 in
set_option maxRecDepth 100000 in
theorem g_X6_numbers (l : Launch) (g : he_G) (p0 : Nat) (p1 : Nat) (p2 : Nat) (p3 : Nat) (p4 : Nat) (w : Int32) (x : Int32)  : he_I l yX6_numbers wsX6_numbers 1 22 0 0 g [.ref p0, .int x] [(oX6 p0 p1 p2 p3 p4 w)] (fun (r : Int32) (u : Unit) => r = numF x) (fun (u : Unit) => [(oX6 p0 p1 p2 p3 p4 w)]) := by
  refine he_begin (l := l) (g := g) (y := yX6_numbers) (wl := wsX6_numbers) (fr := 1) (lo := 22) (mc := 0) (ms := 0) (av := [.ref p0, .int x]) (ws := [(oX6 p0 p1 p2 p3 p4 w)]) (cc := cX6_numbers) (maxL := 2) (ret := (some .int)) (fun A => va_Qi (fun (r : Int32) (u : Unit) => r = numF x) (fun u t => he_post g A ((fun (u : Unit) => [(oX6 p0 p1 p2 p3 p4 w)]) u) t) A) (by decide) rfl (Nat.le_of_ble_eq_true rfl) ?_
  intro p e s m args below meth c A ls H locs Q hQ hB
  obtain ⟨hx, hb, hr, hml, hown, hts, hlk, hin, hP, hK, hD, hS, hA, hE, hl⟩ := hB
  have hl : lv_has ls 2 [(0, .ref p0), (1, .int x)] := hl
  have f36 := hts (.fieldLink RX6 36 "HiredEnemy$Plan" "NUMBERS" "[I") (iwoX6_numbers (k := 0) rfl)
  obtain ⟨t_nu, hZ_nu, hT_nu⟩ := hE.2.1
  have nl39 := hE.nest (RX6, 39, yX10_within) (by decide +kernel)
  have iniX10 := hts (.initialized RX10) (iwoX6_numbers (k := 2) rfl)
  have st_yX10_within := hts (.static yX10_within) (iwoX6_numbers (k := 1) rfl)
  refine lv_iload_n hx hb dX6_numbers_0 rfl (lv_at hl 1 rfl) ?_
  refine lv_iconst (v := 0) hx hb dX6_numbers_1 (by decide) ?_
  refine va_gets hx hb hZ_nu hS hown f36 (fun _ h9 => h9) dX6_numbers_2 ?_
  refine va_tlen (v := 8) hx hb hT_nu hS (by decide) dX6_numbers_5 ?_
  refine lv_iconst (v := 1) hx hb dX6_numbers_6 (by decide) ?_
  refine lv_isub hx hb dX6_numbers_7 ?_
  refine he_top (7) (by decide) ?_
  refine he_ci (wc := []) (wr := [(oX6 p0 p1 p2 p3 p4 w)]) (va_runSN (As := [.int x, .int 0, .int 7]) (rest := []) ⟨hx, hb, hml, hown, hts⟩ (c_X10_within l g x 0 7 H.size) ⟨(va_cnB 3 hts gX6_numbers_X10_within_n39 rfl rfl rfl nl39 iniX10 (by decide +kernel) ⟨Nat.le_of_ble_eq_true rfl, Nat.le_of_ble_eq_true rfl⟩), st_yX10_within, trivial⟩ (he_preS (wc := []) hK hP hD hS hA hE [] rfl rfl) rfl rfl hl.1 rfl (lv_room (Nat.le_of_ble_eq_true rfl)) dX6_numbers_8 ⟨(Nat.le_of_ble_eq_true rfl), (Nat.le_of_ble_eq_true rfl)⟩) hP hD hS hA [] [0] rfl rfl rfl (by decide) (fun r_1 u_2 H locs h_3 hP hD hS => ?_)
  subst h_3
  have hP : va_P g.1 vwCl [(oX6 p0 p1 p2 p3 p4 w)] H := hP
  have hD : va_D A [(oX6 p0 p1 p2 p3 p4 w)] := hD
  refine lv_if_eq (tgt := 22) hx hb dX6_numbers_11 (by decide) (fun c_4 => ?_) (fun c_4 => ?_)
  · refine lv_iconst (v := 0) hx hb dX6_numbers_22 (by decide) ?_
    exact he_ri hQ hx hb hr hlk hP hD hS dX6_numbers_23 (Nat.le_of_ble_eq_true rfl) (Nat.le_of_ble_eq_true rfl) (()) (rfl) (by simp [numF, c_4])
  · refine va_gets hx hb hZ_nu hS hown f36 (fun _ h9 => h9) dX6_numbers_14 ?_
    refine lv_iload_n hx hb dX6_numbers_17 rfl (lv_at hl 1 rfl) ?_
    refine he_tald hx hb hT_nu hS (x.toNatClampNeg) (he_within_nat (B := 7) rfl (by decide) c_4).1 (Nat.lt_succ_of_le (he_within_nat (B := 7) rfl (by decide) c_4).2) (by decide) (he_numbers.getD x.toNatClampNeg 0) rfl dX6_numbers_18 ?_
    refine lv_goto (tgt := 23) hx hb dX6_numbers_19 (by decide) ?_
    exact he_ri hQ hx hb hr hlk hP hD hS dX6_numbers_23 (Nat.le_of_ble_eq_true rfl) (Nat.le_of_ble_eq_true rfl) (()) (rfl) (by simp [numF, c_4])
set_option maxHeartbeats 4000000 in
set_option maxRecDepth 100000 in
theorem g_X5_numbers (l : Launch) (g : he_G) (t0 : Nat) (t1 : Nat) (t2 : Nat) (pw : Int32) (x : Int32)  : he_I l yX5_numbers wsX5_numbers 0 0 0 0 g [.ref t0, .int x] [(oX5 t0 t1 t2 pw)] (fun (r : Int32) (u : Unit) => (r = 1 ∨ r = 2) ∧ (x = 6 ∨ r = 1)) (fun (u : Unit) => [(oX5 t0 t1 t2 pw)]) := by
  refine he_begin (l := l) (g := g) (y := yX5_numbers) (wl := wsX5_numbers) (fr := 0) (lo := 0) (mc := 0) (ms := 0) (av := [.ref t0, .int x]) (ws := [(oX5 t0 t1 t2 pw)]) (cc := cX5_numbers) (maxL := 2) (ret := (some .int)) (fun A => va_Qi (fun (r : Int32) (u : Unit) => (r = 1 ∨ r = 2) ∧ (x = 6 ∨ r = 1)) (fun u t => he_post g A ((fun (u : Unit) => [(oX5 t0 t1 t2 pw)]) u) t) A) (by decide) rfl (Nat.le_of_ble_eq_true rfl) ?_
  intro p e s m args below meth c A ls H locs Q hQ hB
  obtain ⟨hx, hb, hr, hml, hown, hts, hlk, hin, hP, hK, hD, hS, hA, hE, hl⟩ := hB
  have hl : lv_has ls 2 [(0, .ref t0), (1, .int x)] := hl
  refine lv_iload_n hx hb dX5_numbers_0 rfl (lv_at hl 1 rfl) ?_
  refine lv_bipush (v := 6) hx hb dX5_numbers_1 (by decide) ?_
  refine lv_icmp_ne (tgt := 10) hx hb dX5_numbers_3 (by decide) (fun c_1 => ?_) (fun c_1 => ?_)
  · refine lv_iconst (v := 1) hx hb dX5_numbers_10 (by decide) ?_
    exact he_ri hQ hx hb hr hlk hP hD hS dX5_numbers_11 (Nat.le_of_ble_eq_true rfl) (Nat.le_of_ble_eq_true rfl) (()) (rfl) (⟨Or.inl rfl, Or.inr rfl⟩)
  · refine lv_iconst (v := 2) hx hb dX5_numbers_6 (by decide) ?_
    refine lv_goto (tgt := 11) hx hb dX5_numbers_7 (by decide) ?_
    exact he_ri hQ hx hb hr hlk hP hD hS dX5_numbers_11 (Nat.le_of_ble_eq_true rfl) (Nat.le_of_ble_eq_true rfl) (()) (rfl) (⟨Or.inr rfl, Or.inl c_1⟩)
set_option maxHeartbeats 4000000 in
set_option maxRecDepth 100000 in
theorem g_X6_low (l : Launch) (g : he_G) (p0 : Nat) (p1 : Nat) (p2 : Nat) (p3 : Nat) (p4 : Nat) (w : Int32) (x : Int32) (i : Int32)  : he_I l yX6_low wsX6_low 0 0 0 0 g [.ref p0, .int x, .int i] [(oX6 p0 p1 p2 p3 p4 w)] (fun (r : Int32) (u : Unit) => True) (fun (u : Unit) => [(oX6 p0 p1 p2 p3 p4 w)]) := by
  refine he_begin (l := l) (g := g) (y := yX6_low) (wl := wsX6_low) (fr := 0) (lo := 0) (mc := 0) (ms := 0) (av := [.ref p0, .int x, .int i]) (ws := [(oX6 p0 p1 p2 p3 p4 w)]) (cc := cX6_low) (maxL := 3) (ret := (some .int)) (fun A => va_Qi (fun (r : Int32) (u : Unit) => True) (fun u t => he_post g A ((fun (u : Unit) => [(oX6 p0 p1 p2 p3 p4 w)]) u) t) A) (by decide) rfl (Nat.le_of_ble_eq_true rfl) ?_
  intro p e s m args below meth c A ls H locs Q hQ hB
  obtain ⟨hx, hb, hr, hml, hown, hts, hlk, hin, hP, hK, hD, hS, hA, hE, hl⟩ := hB
  have hl : lv_has ls 3 [(0, .ref p0), (1, .int x), (2, .int i)] := hl
  refine lv_iload_n hx hb dX6_low_0 rfl (lv_at hl 1 rfl) ?_
  refine lv_if_ne (tgt := 12) hx hb dX6_low_1 (by decide) (fun c_1 => ?_) (fun c_1 => ?_)
  · refine lv_iconst (v := 0) hx hb dX6_low_12 (by decide) ?_
    exact he_ri hQ hx hb hr hlk hP hD hS dX6_low_13 (Nat.le_of_ble_eq_true rfl) (Nat.le_of_ble_eq_true rfl) (()) (rfl) (trivial)
  · refine lv_iload_n hx hb dX6_low_4 rfl (lv_at hl 2 rfl) ?_
    refine lv_if_ne (tgt := 12) hx hb dX6_low_5 (by decide) (fun c_2 => ?_) (fun c_2 => ?_)
    · refine lv_iconst (v := 0) hx hb dX6_low_12 (by decide) ?_
      exact he_ri hQ hx hb hr hlk hP hD hS dX6_low_13 (Nat.le_of_ble_eq_true rfl) (Nat.le_of_ble_eq_true rfl) (()) (rfl) (trivial)
    · refine lv_iconst (v := 1) hx hb dX6_low_8 (by decide) ?_
      refine lv_goto (tgt := 13) hx hb dX6_low_9 (by decide) ?_
      exact he_ri hQ hx hb hr hlk hP hD hS dX6_low_13 (Nat.le_of_ble_eq_true rfl) (Nat.le_of_ble_eq_true rfl) (()) (rfl) (trivial)
set_option maxHeartbeats 4000000 in
set_option maxRecDepth 100000 in
theorem g_X5_low (l : Launch) (g : he_G) (t0 : Nat) (t1 : Nat) (t2 : Nat) (pw : Int32) (x : Int32) (i : Int32)  : he_I l yX5_low wsX5_low 0 0 0 0 g [.ref t0, .int x, .int i] [(oX5 t0 t1 t2 pw)] (fun (r : Int32) (u : Unit) => r = loP x) (fun (u : Unit) => [(oX5 t0 t1 t2 pw)]) := by
  refine he_begin (l := l) (g := g) (y := yX5_low) (wl := wsX5_low) (fr := 0) (lo := 0) (mc := 0) (ms := 0) (av := [.ref t0, .int x, .int i]) (ws := [(oX5 t0 t1 t2 pw)]) (cc := cX5_low) (maxL := 3) (ret := (some .int)) (fun A => va_Qi (fun (r : Int32) (u : Unit) => r = loP x) (fun u t => he_post g A ((fun (u : Unit) => [(oX5 t0 t1 t2 pw)]) u) t) A) (by decide) rfl (Nat.le_of_ble_eq_true rfl) ?_
  intro p e s m args below meth c A ls H locs Q hQ hB
  obtain ⟨hx, hb, hr, hml, hown, hts, hlk, hin, hP, hK, hD, hS, hA, hE, hl⟩ := hB
  have hl : lv_has ls 3 [(0, .ref t0), (1, .int x), (2, .int i)] := hl
  refine lv_iload_n hx hb dX5_low_0 rfl (lv_at hl 1 rfl) ?_
  refine lv_iconst (v := 5) hx hb dX5_low_1 (by decide) ?_
  refine lv_icmp_ne (tgt := 9) hx hb dX5_low_2 (by decide) (fun c_1 => ?_) (fun c_1 => ?_)
  · refine lv_iconst (v := 0) hx hb dX5_low_9 (by decide) ?_
    exact he_ri hQ hx hb hr hlk hP hD hS dX5_low_10 (Nat.le_of_ble_eq_true rfl) (Nat.le_of_ble_eq_true rfl) (()) (rfl) (by simp [loP, c_1])
  · refine lv_iconst (v := 1) hx hb dX5_low_5 (by decide) ?_
    refine lv_goto (tgt := 10) hx hb dX5_low_6 (by decide) ?_
    exact he_ri hQ hx hb hr hlk hP hD hS dX5_low_10 (Nat.le_of_ble_eq_true rfl) (Nat.le_of_ble_eq_true rfl) (()) (rfl) (by simp [loP, c_1])
set_option maxHeartbeats 4000000 in
set_option maxRecDepth 100000 in
theorem g_X6_high (l : Launch) (g : he_G) (p0 : Nat) (p1 : Nat) (p2 : Nat) (p3 : Nat) (p4 : Nat) (w : Int32) (x : Int32) (i : Int32)  : he_I l yX6_high wsX6_high 1 22 0 0 g [.ref p0, .int x, .int i] [(oX6 p0 p1 p2 p3 p4 w)] (fun (r : Int32) (u : Unit) => True) (fun (u : Unit) => [(oX6 p0 p1 p2 p3 p4 w)]) := by
  refine he_begin (l := l) (g := g) (y := yX6_high) (wl := wsX6_high) (fr := 1) (lo := 22) (mc := 0) (ms := 0) (av := [.ref p0, .int x, .int i]) (ws := [(oX6 p0 p1 p2 p3 p4 w)]) (cc := cX6_high) (maxL := 4) (ret := (some .int)) (fun A => va_Qi (fun (r : Int32) (u : Unit) => True) (fun u t => he_post g A ((fun (u : Unit) => [(oX6 p0 p1 p2 p3 p4 w)]) u) t) A) (by decide) rfl (Nat.le_of_ble_eq_true rfl) ?_
  intro p e s m args below meth c A ls H locs Q hQ hB
  obtain ⟨hx, hb, hr, hml, hown, hts, hlk, hin, hP, hK, hD, hS, hA, hE, hl⟩ := hB
  have hl : lv_has ls 4 [(0, .ref p0), (1, .int x), (2, .int i)] := hl
  have f43 := hts (.fieldLink RX6 43 "HiredEnemy$Plan" "HIGH" "[I") (iwoX6_high (k := 0) rfl)
  obtain ⟨t_hi, hZ_hi, hT_hi⟩ := hE.2.2.1
  have nl39 := hE.nest (RX6, 39, yX10_within) (by decide +kernel)
  have iniX10 := hts (.initialized RX10) (iwoX6_high (k := 2) rfl)
  have st_yX10_within := hts (.static yX10_within) (iwoX6_high (k := 1) rfl)
  refine lv_iload_n hx hb dX6_high_0 rfl (lv_at hl 1 rfl) ?_
  refine lv_iconst (v := 3) hx hb dX6_high_1 (by decide) ?_
  refine lv_imul hx hb dX6_high_2 ?_
  refine lv_iload_n hx hb dX6_high_3 rfl (lv_at hl 2 rfl) ?_
  refine lv_iadd hx hb dX6_high_4 ?_
  refine lv_istore_n (lv' := [(3, .int ((x * 3) + i)), (0, .ref p0), (1, .int x), (2, .int i)]) hx hb dX6_high_5 rfl hl (by decide) rfl (fun ls hl => ?_)
  refine lv_iload_n hx hb dX6_high_6 rfl (lv_at hl 0 rfl) ?_
  refine lv_iconst (v := 0) hx hb dX6_high_7 (by decide) ?_
  refine va_gets hx hb hZ_hi hS hown f43 (fun _ h9 => h9) dX6_high_8 ?_
  refine va_tlen (v := 24) hx hb hT_hi hS (by decide) dX6_high_11 ?_
  refine lv_iconst (v := 1) hx hb dX6_high_12 (by decide) ?_
  refine lv_isub hx hb dX6_high_13 ?_
  refine he_top (23) (by decide) ?_
  refine he_ci (wc := []) (wr := [(oX6 p0 p1 p2 p3 p4 w)]) (va_runSN (As := [.int ((x * 3) + i), .int 0, .int 23]) (rest := []) ⟨hx, hb, hml, hown, hts⟩ (c_X10_within l g ((x * 3) + i) 0 23 H.size) ⟨(va_cnB 3 hts gX6_high_X10_within_n39 rfl rfl rfl nl39 iniX10 (by decide +kernel) ⟨Nat.le_of_ble_eq_true rfl, Nat.le_of_ble_eq_true rfl⟩), st_yX10_within, trivial⟩ (he_preS (wc := []) hK hP hD hS hA hE [] rfl rfl) rfl rfl hl.1 rfl (lv_room (Nat.le_of_ble_eq_true rfl)) dX6_high_14 ⟨(Nat.le_of_ble_eq_true rfl), (Nat.le_of_ble_eq_true rfl)⟩) hP hD hS hA [] [0] rfl rfl rfl (by decide) (fun r_1 u_2 H locs h_3 hP hD hS => ?_)
  subst h_3
  have hP : va_P g.1 vwCl [(oX6 p0 p1 p2 p3 p4 w)] H := hP
  have hD : va_D A [(oX6 p0 p1 p2 p3 p4 w)] := hD
  refine lv_if_eq (tgt := 28) hx hb dX6_high_17 (by decide) (fun c_4 => ?_) (fun c_4 => ?_)
  · refine lv_iconst (v := 0) hx hb dX6_high_28 (by decide) ?_
    exact he_ri hQ hx hb hr hlk hP hD hS dX6_high_29 (Nat.le_of_ble_eq_true rfl) (Nat.le_of_ble_eq_true rfl) (()) (rfl) (trivial)
  · refine va_gets hx hb hZ_hi hS hown f43 (fun _ h9 => h9) dX6_high_20 ?_
    refine lv_iload_n hx hb dX6_high_23 rfl (lv_at hl 0 rfl) ?_
    refine he_tald hx hb hT_hi hS ((x * 3 + i).toNatClampNeg) (he_within_nat (B := 23) rfl (by decide) c_4).1 (Nat.lt_succ_of_le (he_within_nat (B := 23) rfl (by decide) c_4).2) (by decide) (he_high.getD ((x * 3 + i).toNatClampNeg) 0) rfl dX6_high_24 ?_
    refine lv_goto (tgt := 29) hx hb dX6_high_25 (by decide) ?_
    exact he_ri hQ hx hb hr hlk hP hD hS dX6_high_29 (Nat.le_of_ble_eq_true rfl) (Nat.le_of_ble_eq_true rfl) (()) (rfl) (trivial)
set_option maxHeartbeats 4000000 in
set_option maxRecDepth 100000 in
theorem g_X5_high (l : Launch) (g : he_G) (t0 : Nat) (t1 : Nat) (t2 : Nat) (pw : Int32) (x : Int32) (i : Int32)  : he_I l yX5_high wsX5_high 1 22 0 0 g [.ref t0, .int x, .int i] [(oX5 t0 t1 t2 pw)] (fun (r : Int32) (u : Unit) => r = hiP x i pw) (fun (u : Unit) => [(oX5 t0 t1 t2 pw)]) := by
  refine he_begin (l := l) (g := g) (y := yX5_high) (wl := wsX5_high) (fr := 1) (lo := 22) (mc := 0) (ms := 0) (av := [.ref t0, .int x, .int i]) (ws := [(oX5 t0 t1 t2 pw)]) (cc := cX5_high) (maxL := 3) (ret := (some .int)) (fun A => va_Qi (fun (r : Int32) (u : Unit) => r = hiP x i pw) (fun u t => he_post g A ((fun (u : Unit) => [(oX5 t0 t1 t2 pw)]) u) t) A) (by decide) rfl (Nat.le_of_ble_eq_true rfl) ?_
  intro p e s m args below meth c A ls H locs Q hQ hB
  obtain ⟨hx, hb, hr, hml, hown, hts, hlk, hin, hP, hK, hD, hS, hA, hE, hl⟩ := hB
  have hl : lv_has ls 3 [(0, .ref t0), (1, .int x), (2, .int i)] := hl
  have f34 := hts (.fieldLink RX5 34 "HiredEnemy$Pact" "HIGH" "[I") (iwoX5_high (k := 1) rfl)
  obtain ⟨t_ph, hZ_ph, hT_ph⟩ := hE.2.2.2.1
  have nl37 := hE.nest (RX5, 37, yX10_within) (by decide +kernel)
  have iniX10 := hts (.initialized RX10) (iwoX5_high (k := 3) rfl)
  have st_yX10_within := hts (.static yX10_within) (iwoX5_high (k := 2) rfl)
  have f18 := hts (.fieldLink RX5 18 "HiredEnemy$Pact" "walls" "I") (iwoX5_high (k := 0) rfl)
  have inX5 : ∀ w ∈ wsX50, w ∈ wsX5_high := innX5_high_X5
  refine lv_iload_n hx hb dX5_high_0 rfl (lv_at hl 1 rfl) ?_
  refine lv_bipush (v := 6) hx hb dX5_high_1 (by decide) ?_
  refine lv_icmp_ne (tgt := 22) hx hb dX5_high_3 (by decide) (fun c_1 => ?_) (fun c_1 => ?_)
  · refine lv_iload_n hx hb dX5_high_22 rfl (lv_at hl 1 rfl) ?_
    refine lv_iconst (v := 0) hx hb dX5_high_23 (by decide) ?_
    refine va_gets hx hb hZ_ph hS hown f34 (fun _ h9 => h9) dX5_high_24 ?_
    refine va_tlen (v := 6) hx hb hT_ph hS (by decide) dX5_high_27 ?_
    refine lv_iconst (v := 1) hx hb dX5_high_28 (by decide) ?_
    refine lv_isub hx hb dX5_high_29 ?_
    refine he_top (5) (by decide) ?_
    refine he_ci (wc := []) (wr := [(oX5 t0 t1 t2 pw)]) (va_runSN (As := [.int x, .int 0, .int 5]) (rest := []) ⟨hx, hb, hml, hown, hts⟩ (c_X10_within l g x 0 5 H.size) ⟨(va_cnB 3 hts gX5_high_X10_within_n37 rfl rfl rfl nl37 iniX10 (by decide +kernel) ⟨Nat.le_of_ble_eq_true rfl, Nat.le_of_ble_eq_true rfl⟩), st_yX10_within, trivial⟩ (he_preS (wc := []) hK hP hD hS hA hE [] rfl rfl) rfl rfl hl.1 rfl (lv_room (Nat.le_of_ble_eq_true rfl)) dX5_high_30 ⟨(Nat.le_of_ble_eq_true rfl), (Nat.le_of_ble_eq_true rfl)⟩) hP hD hS hA [] [0] rfl rfl rfl (by decide) (fun r_2 u_3 H locs h_4 hP hD hS => ?_)
    subst h_4
    have hP : va_P g.1 vwCl [(oX5 t0 t1 t2 pw)] H := hP
    have hD : va_D A [(oX5 t0 t1 t2 pw)] := hD
    refine lv_if_eq (tgt := 44) hx hb dX5_high_33 (by decide) (fun c_5 => ?_) (fun c_5 => ?_)
    · refine lv_iconst (v := 0) hx hb dX5_high_44 (by decide) ?_
      exact he_ri hQ hx hb hr hlk hP hD hS dX5_high_45 (Nat.le_of_ble_eq_true rfl) (Nat.le_of_ble_eq_true rfl) (()) (rfl) (by simp [hiP, c_1, c_5])
    · refine va_gets hx hb hZ_ph hS hown f34 (fun _ h9 => h9) dX5_high_36 ?_
      refine lv_iload_n hx hb dX5_high_39 rfl (lv_at hl 1 rfl) ?_
      refine he_tald hx hb hT_ph hS (x.toNatClampNeg) (he_within_nat (B := 5) rfl (by decide) c_5).1 (Nat.lt_succ_of_le (he_within_nat (B := 5) rfl (by decide) c_5).2) (by decide) (he_pacthigh.getD x.toNatClampNeg 0) rfl dX5_high_40 ?_
      refine lv_goto (tgt := 45) hx hb dX5_high_41 (by decide) ?_
      exact he_ri hQ hx hb hr hlk hP hD hS dX5_high_45 (Nat.le_of_ble_eq_true rfl) (Nat.le_of_ble_eq_true rfl) (()) (rfl) (by simp [hiP, c_1, c_5])
  · refine lv_iload_n hx hb dX5_high_6 rfl (lv_at hl 2 rfl) ?_
    refine lv_if_ne (tgt := 19) hx hb dX5_high_7 (by decide) (fun c_6 => ?_) (fun c_6 => ?_)
    · refine lv_bipush (v := 35) hx hb dX5_high_19 (by decide) ?_
      exact he_ri hQ hx hb hr hlk hP hD hS dX5_high_21 (Nat.le_of_ble_eq_true rfl) (Nat.le_of_ble_eq_true rfl) (()) (rfl) (by simp [hiP, c_1, c_6])
    · refine lv_aload_n hx hb dX5_high_10 rfl (lv_at hl 0 rfl) ?_
      refine va_get (v := .int pw) (T := TX5) (N := 3) hx hb hts inX5 hown hK hP 0 rfl rfl 2 (by decide) f18 (fun _ h9 => h9) rfl dX5_high_11 ?_
      refine lv_iconst (v := 1) hx hb dX5_high_14 (by decide) ?_
      refine lv_isub hx hb dX5_high_15 ?_
      refine lv_goto (tgt := 21) hx hb dX5_high_16 (by decide) ?_
      exact he_ri hQ hx hb hr hlk hP hD hS dX5_high_21 (Nat.le_of_ble_eq_true rfl) (Nat.le_of_ble_eq_true rfl) (()) (rfl) (by simp [hiP, c_1, c_6])
set_option maxHeartbeats 4000000 in
set_option maxRecDepth 100000 in
theorem g_X6_addWall (l : Launch) (g : he_G) (p0 : Nat) (p1 : Nat) (p2 : Nat) (p3 : Nat) (p4 : Nat) (w : Nat) (sd : Nat → Int32) (fn : Nat → Int32) (st : Nat → Int32) (me : Nat → Int32) (a : Int32) (b : Int32) (hw6 : w ≤ 6) : he_V l yX6_addWall wsX6_addWall 0 0 0 0 g [.ref p0, .int a, .int b] [(oX6 p0 p1 p2 p3 p4 (nI w)), (aI g p1 24 sd), (aI g p2 10 fn), (aI g p3 6 st), (aI g p4 6 me)] (fun (u : Nat × (Nat → Int32) × (Nat → Int32)) => u.1 ≤ 6) (fun (u : Nat × (Nat → Int32) × (Nat → Int32)) => [(oX6 p0 p1 p2 p3 p4 (nI u.1)), (aI g p1 24 sd), (aI g p2 10 fn), (aI g p3 6 u.2.1), (aI g p4 6 u.2.2)]) := by
  refine he_begin (l := l) (g := g) (y := yX6_addWall) (wl := wsX6_addWall) (fr := 0) (lo := 0) (mc := 0) (ms := 0) (av := [.ref p0, .int a, .int b]) (ws := [(oX6 p0 p1 p2 p3 p4 (nI w)), (aI g p1 24 sd), (aI g p2 10 fn), (aI g p3 6 st), (aI g p4 6 me)]) (cc := cX6_addWall) (maxL := 3) (ret := none) (fun A => va_Qv (fun (u : Nat × (Nat → Int32) × (Nat → Int32)) => u.1 ≤ 6) (fun u t => he_post g A ((fun (u : Nat × (Nat → Int32) × (Nat → Int32)) => [(oX6 p0 p1 p2 p3 p4 (nI u.1)), (aI g p1 24 sd), (aI g p2 10 fn), (aI g p3 6 u.2.1), (aI g p4 6 u.2.2)]) u) t) A) (by decide) rfl (Nat.le_of_ble_eq_true rfl) ?_
  intro p e s m args below meth c A ls H locs Q hQ hB
  obtain ⟨hx, hb, hr, hml, hown, hts, hlk, hin, hP, hK, hD, hS, hA, hE, hl⟩ := hB
  have hl : lv_has ls 3 [(0, .ref p0), (1, .int a), (2, .int b)] := hl
  have f30 := hts (.fieldLink RX6 30 "HiredEnemy$Plan" "walls" "I") (iwoX6_addWall (k := 0) rfl)
  have inX6 : ∀ w ∈ wsX60, w ∈ wsX6_addWall := innX6_addWall_X6
  have f21 := hts (.fieldLink RX6 21 "HiredEnemy$Plan" "strength" "[I") (iwoX6_addWall (k := 1) rfl)
  have f24 := hts (.fieldLink RX6 24 "HiredEnemy$Plan" "mended" "[I") (iwoX6_addWall (k := 2) rfl)
  refine lv_aload_n hx hb dX6_addWall_0 rfl (lv_at hl 0 rfl) ?_
  refine va_get (v := .int (nI w)) (T := TX6) (N := 5) hx hb hts inX6 hown hK hP 0 rfl rfl 4 (by decide) f30 (fun _ h9 => h9) rfl dX6_addWall_1 ?_
  refine lv_bipush (v := 6) hx hb dX6_addWall_4 (by decide) ?_
  refine lv_icmp_ge (tgt := 39) hx hb dX6_addWall_6 (by decide) (fun c_1 => ?_) (fun c_1 => ?_)
  · have k_2 : 6 ≤ w := (he_cle (a := 6) (b := w) (by decide) rfl (by omega) (by omega)).mp c_1
    exact he_rv hQ hx hb hr hlk hP hD hS dX6_addWall_39 (Nat.le_of_ble_eq_true rfl) (Nat.le_of_ble_eq_true rfl) ((w, st, me)) (rfl) ((by (try dsimp only); omega))
  · have k_3 : ¬ (6 ≤ w) := fun h9 => c_1 ((he_cle (a := 6) (b := w) (by decide) rfl (by omega) (by omega)).mpr h9)
    refine lv_aload_n hx hb dX6_addWall_9 rfl (lv_at hl 0 rfl) ?_
    refine va_get (v := .ref p3) (T := TX6) (N := 5) hx hb hts inX6 hown hK hP 0 rfl rfl 2 (by decide) f21 (fun _ h9 => h9) rfl dX6_addWall_10 ?_
    refine lv_aload_n hx hb dX6_addWall_13 rfl (lv_at hl 0 rfl) ?_
    refine va_get (v := .int (nI w)) (T := TX6) (N := 5) hx hb hts inX6 hown hK hP 0 rfl rfl 4 (by decide) f30 (fun _ h9 => h9) rfl dX6_addWall_14 ?_
    refine lv_iload_n hx hb dX6_addWall_17 rfl (lv_at hl 1 rfl) ?_
    refine he_iast hx hb hK hP hD hS 3 rfl (w) rfl (by first | assumption | decide | omega) (by first | decide | assumption) dX6_addWall_18 (fun H locs hP hD hS => ?_)
    have hP : va_P g.1 vwCl [(oX6 p0 p1 p2 p3 p4 (nI w)), (aI g p1 24 sd), (aI g p2 10 fn), (aI g p3 6 (upd st w a)), (aI g p4 6 me)] H := hP
    have hD : va_D A [(oX6 p0 p1 p2 p3 p4 (nI w)), (aI g p1 24 sd), (aI g p2 10 fn), (aI g p3 6 (upd st w a)), (aI g p4 6 me)] := hD
    refine lv_aload_n hx hb dX6_addWall_19 rfl (lv_at hl 0 rfl) ?_
    refine va_get (v := .ref p4) (T := TX6) (N := 5) hx hb hts inX6 hown hK hP 0 rfl rfl 3 (by decide) f24 (fun _ h9 => h9) rfl dX6_addWall_20 ?_
    refine lv_aload_n hx hb dX6_addWall_23 rfl (lv_at hl 0 rfl) ?_
    refine va_get (v := .int (nI w)) (T := TX6) (N := 5) hx hb hts inX6 hown hK hP 0 rfl rfl 4 (by decide) f30 (fun _ h9 => h9) rfl dX6_addWall_24 ?_
    refine lv_iload_n hx hb dX6_addWall_27 rfl (lv_at hl 2 rfl) ?_
    refine he_iast hx hb hK hP hD hS 4 rfl (w) rfl (by first | assumption | decide | omega) (by first | decide | assumption) dX6_addWall_28 (fun H locs hP hD hS => ?_)
    have hP : va_P g.1 vwCl [(oX6 p0 p1 p2 p3 p4 (nI w)), (aI g p1 24 sd), (aI g p2 10 fn), (aI g p3 6 (upd st w a)), (aI g p4 6 (upd me w b))] H := hP
    have hD : va_D A [(oX6 p0 p1 p2 p3 p4 (nI w)), (aI g p1 24 sd), (aI g p2 10 fn), (aI g p3 6 (upd st w a)), (aI g p4 6 (upd me w b))] := hD
    refine lv_aload_n hx hb dX6_addWall_29 rfl (lv_at hl 0 rfl) ?_
    refine lv_dup hx hb dX6_addWall_30 rfl ?_
    refine va_get (v := .int (nI w)) (T := TX6) (N := 5) hx hb hts inX6 hown hK hP 0 rfl rfl 4 (by decide) f30 (fun _ h9 => h9) rfl dX6_addWall_31 ?_
    refine lv_iconst (v := 1) hx hb dX6_addWall_34 (by decide) ?_
    refine lv_iadd hx hb dX6_addWall_35 ?_
    refine he_top (nI (w + 1)) (nI_add w 1) ?_
    refine va_put (v := .int (nI (w + 1))) (ty := .int) (T := TX6) (N := 5) hx hb hts inX6 tyX6 tyX6_ok nmX6 hown hK hP hD hS 0 rfl rfl 4 (by decide) f30 (fun _ h9 => h9) rfl (by decide +kernel) rfl rfl (Nat.le_of_ble_eq_true rfl) dX6_addWall_36 (fun H locs hP hD hS => ?_)
    have hP : va_P g.1 vwCl [(oX6 p0 p1 p2 p3 p4 (nI (w + 1))), (aI g p1 24 sd), (aI g p2 10 fn), (aI g p3 6 (upd st w a)), (aI g p4 6 (upd me w b))] H := hP
    have hD : va_D A [(oX6 p0 p1 p2 p3 p4 (nI (w + 1))), (aI g p1 24 sd), (aI g p2 10 fn), (aI g p3 6 (upd st w a)), (aI g p4 6 (upd me w b))] := hD
    exact he_rv hQ hx hb hr hlk hP hD hS dX6_addWall_39 (Nat.le_of_ble_eq_true rfl) (Nat.le_of_ble_eq_true rfl) ((w + 1, upd st w a, upd me w b)) (rfl) ((by (try dsimp only); omega))
set_option maxHeartbeats 4000000 in
set_option maxRecDepth 100000 in
theorem g_X6_store (l : Launch) (g : he_G) (p0 : Nat) (p1 : Nat) (p2 : Nat) (p3 : Nat) (p4 : Nat) (w : Nat) (sd : Nat → Int32) (fn : Nat → Int32) (st : Nat → Int32) (me : Nat → Int32) (z1 : Nat) (nu : Nat → Int32) (x : Int32) (hw6 : w ≤ 6) : he_V l yX6_store wsX6_store 2 43 0 0 g [.ref p0, .int x, .ref z1] [(oX6 p0 p1 p2 p3 p4 (nI w)), (aI g p1 24 sd), (aI g p2 10 fn), (aI g p3 6 st), (aI g p4 6 me), (aI g z1 3 nu)] (fun (u : Nat × (Nat → Int32) × (Nat → Int32) × (Nat → Int32) × (Nat → Int32)) => u.1 ≤ 6) (fun (u : Nat × (Nat → Int32) × (Nat → Int32) × (Nat → Int32) × (Nat → Int32)) => [(oX6 p0 p1 p2 p3 p4 (nI u.1)), (aI g p1 24 u.2.1), (aI g p2 10 u.2.2.1), (aI g p3 6 u.2.2.2.1), (aI g p4 6 u.2.2.2.2), (aI g z1 3 nu)]) := by
  refine he_begin (l := l) (g := g) (y := yX6_store) (wl := wsX6_store) (fr := 2) (lo := 43) (mc := 0) (ms := 0) (av := [.ref p0, .int x, .ref z1]) (ws := [(oX6 p0 p1 p2 p3 p4 (nI w)), (aI g p1 24 sd), (aI g p2 10 fn), (aI g p3 6 st), (aI g p4 6 me), (aI g z1 3 nu)]) (cc := cX6_store) (maxL := 4) (ret := none) (fun A => va_Qv (fun (u : Nat × (Nat → Int32) × (Nat → Int32) × (Nat → Int32) × (Nat → Int32)) => u.1 ≤ 6) (fun u t => he_post g A ((fun (u : Nat × (Nat → Int32) × (Nat → Int32) × (Nat → Int32) × (Nat → Int32)) => [(oX6 p0 p1 p2 p3 p4 (nI u.1)), (aI g p1 24 u.2.1), (aI g p2 10 u.2.2.1), (aI g p3 6 u.2.2.2.1), (aI g p4 6 u.2.2.2.2), (aI g z1 3 nu)]) u) t) A) (by decide) rfl (Nat.le_of_ble_eq_true rfl) ?_
  intro p e s m args below meth c A ls H locs Q hQ hB
  obtain ⟨hx, hb, hr, hml, hown, hts, hlk, hin, hP, hK, hD, hS, hA, hE, hl⟩ := hB
  have hl : lv_has ls 4 [(0, .ref p0), (1, .int x), (2, .ref z1)] := hl
  have f15 := hts (.fieldLink RX6 15 "HiredEnemy$Plan" "said" "[I") (iwoX6_store (k := 1) rfl)
  have inX6 : ∀ w ∈ wsX60, w ∈ wsX6_store := innX6_store_X6
  have nl39 := hE.nest (RX6, 39, yX10_within) (by decide +kernel)
  have iniX10 := hts (.initialized RX10) (iwoX6_store (k := 7) rfl)
  have st_yX10_within := hts (.static yX10_within) (iwoX6_store (k := 6) rfl)
  have f18 := hts (.fieldLink RX6 18 "HiredEnemy$Plan" "fearByNear" "[I") (iwoX6_store (k := 0) rfl)
  refine lv_iload_n hx hb dX6_store_0 rfl (lv_at hl 1 rfl) ?_
  refine lv_if_ne (tgt := 17) hx hb dX6_store_1 (by decide) (fun c_1 => ?_) (fun c_1 => ?_)
  · refine lv_iload_n hx hb dX6_store_17 rfl (lv_at hl 1 rfl) ?_
    refine lv_iconst (v := 5) hx hb dX6_store_18 (by decide) ?_
    refine lv_icmp_ne (tgt := 48) hx hb dX6_store_19 (by decide) (fun c_2 => ?_) (fun c_2 => ?_)
    · refine lv_iconst (v := 0) hx hb dX6_store_48 (by decide) ?_
      refine lv_istore_n (lv' := [(3, .int 0), (0, .ref p0), (1, .int x), (2, .ref z1)]) hx hb dX6_store_49 rfl hl (by decide) rfl (fun ls hl => ?_)
      have loop50 : ∀ (n9 : Nat) (j : Nat) (F : Nat → Int32), 3 - j < n9 → (j ≤ 3) → ∀ (H : Heap) (locs : List Loc) (ls : Array Slot), va_P g.1 vwCl [(oX6 p0 p1 p2 p3 p4 (nI w)), (aI g p1 24 F), (aI g p2 10 fn), (aI g p3 6 st), (aI g p4 6 me), (aI g z1 3 nu)] H → va_D A [(oX6 p0 p1 p2 p3 p4 (nI w)), (aI g p1 24 F), (aI g p2 10 fn), (aI g p3 6 st), (aI g p4 6 me), (aI g z1 3 nu)] → va_S A s.heap H locs → lv_has ls 4 [(0, .ref p0), (1, .int x), (2, .ref z1), (3, .int (nI j))] → W p l e (he_room 2 43 0 0) s m args below meth c H locs 0 0 Q (F0 m 50 ls []) := by
        intro n9
        induction n9 with
        | zero => intro j F hm9; exact absurd hm9 (Nat.not_lt_zero _)
        | succ n9 ih50 =>
          intro j F hm9 hj H locs ls hP hD hS hl
          refine lv_iload_n hx hb dX6_store_50 rfl (lv_at hl 3 rfl) ?_
          refine lv_aload_n hx hb dX6_store_51 rfl (lv_at hl 0 rfl) ?_
          refine lv_iload_n hx hb dX6_store_52 rfl (lv_at hl 1 rfl) ?_
          refine he_ci (wc := [(oX6 p0 p1 p2 p3 p4 (nI w))]) (wr := [(aI g p1 24 F), (aI g p2 10 fn), (aI g p3 6 st), (aI g p4 6 me), (aI g z1 3 nu)]) (va_runV (As := [.int x]) (rest := [.int (nI j)]) ⟨hx, hb, hml, hown, hts⟩ (g_X6_numbers l g p0 p1 p2 p3 p4 (nI w) x H.size) (cwV 1 hts gX6_store_X6_numbers rfl rfl rfl (by decide +kernel) ⟨Nat.le_of_ble_eq_true rfl, Nat.le_of_ble_eq_true rfl⟩) (he_preV (wc := [(oX6 p0 p1 p2 p3 p4 (nI w))]) hK hP hD hS hA hE [0] rfl rfl 0 rfl rfl) rfl rfl hl.1 rfl (lv_room (Nat.le_of_ble_eq_true rfl)) dX6_store_53 ⟨(Nat.le_of_ble_eq_true rfl), (Nat.le_of_ble_eq_true rfl)⟩) hP hD hS hA [0] [1, 2, 3, 4, 5] rfl rfl rfl (by decide) (fun r_3 u_4 H locs h_5 hP hD hS => ?_)
          subst h_5
          have hP : va_P g.1 vwCl [(aI g p1 24 F), (aI g p2 10 fn), (aI g p3 6 st), (aI g p4 6 me), (aI g z1 3 nu), (oX6 p0 p1 p2 p3 p4 (nI w))] H := hP
          have hD : va_D A [(aI g p1 24 F), (aI g p2 10 fn), (aI g p3 6 st), (aI g p4 6 me), (aI g z1 3 nu), (oX6 p0 p1 p2 p3 p4 (nI w))] := hD
          refine lv_icmp_ge (tgt := 78) hx hb dX6_store_56 (by decide) (fun c_6 => ?_) (fun c_6 => ?_)
          · have hP := hP.sub (ws' := [(oX6 p0 p1 p2 p3 p4 (nI w)), (aI g p1 24 F), (aI g p2 10 fn), (aI g p3 6 st), (aI g p4 6 me), (aI g z1 3 nu)]) [5, 0, 1, 2, 3, 4] rfl
            have hD := hD.sub (ws' := [(oX6 p0 p1 p2 p3 p4 (nI w)), (aI g p1 24 F), (aI g p2 10 fn), (aI g p3 6 st), (aI g p4 6 me), (aI g z1 3 nu)]) [5, 0, 1, 2, 3, 4] (by decide) rfl
            exact he_rv hQ hx hb hr hlk hP hD hS dX6_store_78 (Nat.le_of_ble_eq_true rfl) (Nat.le_of_ble_eq_true rfl) ((w, F, fn, st, me)) (rfl) ((by (try dsimp only); omega))
          · obtain ⟨hxw, hj3⟩ := numF_lt (by omega) c_6
            obtain ⟨hx1, hx2⟩ := he_within_nat (B := 7) rfl (by decide) hxw
            refine lv_aload_n hx hb dX6_store_59 rfl (lv_at hl 0 rfl) ?_
            refine va_get (v := .ref p1) (T := TX6) (N := 5) hx hb hts inX6 hown hK hP 5 rfl rfl 0 (by decide) f15 (fun _ h9 => h9) rfl dX6_store_60 ?_
            refine lv_iload_n hx hb dX6_store_63 rfl (lv_at hl 1 rfl) ?_
            refine lv_iconst (v := 3) hx hb dX6_store_64 (by decide) ?_
            refine lv_imul hx hb dX6_store_65 ?_
            refine he_top (nI (x.toNatClampNeg * 3)) (by rw [← pk_mul, ← hx1]; rfl) ?_
            refine lv_iload_n hx hb dX6_store_66 rfl (lv_at hl 3 rfl) ?_
            refine lv_iadd hx hb dX6_store_67 ?_
            refine he_top (nI (x.toNatClampNeg * 3 + j)) (nI_add (x.toNatClampNeg * 3) j) ?_
            refine lv_aload_n hx hb dX6_store_68 rfl (lv_at hl 2 rfl) ?_
            refine lv_iload_n hx hb dX6_store_69 rfl (lv_at hl 3 rfl) ?_
            refine he_iald hx hb hK hP 4 rfl (j) rfl (by first | assumption | decide | omega) (by first | decide | assumption) (nu j) rfl dX6_store_70 ?_
            refine he_iast hx hb hK hP hD hS 0 rfl (x.toNatClampNeg * 3 + j) rfl (by first | assumption | decide | omega) (by first | decide | assumption) dX6_store_71 (fun H locs hP hD hS => ?_)
            have hP : va_P g.1 vwCl [(aI g p1 24 (upd F (x.toNatClampNeg * 3 + j) (nu j))), (aI g p2 10 fn), (aI g p3 6 st), (aI g p4 6 me), (aI g z1 3 nu), (oX6 p0 p1 p2 p3 p4 (nI w))] H := hP
            have hD : va_D A [(aI g p1 24 (upd F (x.toNatClampNeg * 3 + j) (nu j))), (aI g p2 10 fn), (aI g p3 6 st), (aI g p4 6 me), (aI g z1 3 nu), (oX6 p0 p1 p2 p3 p4 (nI w))] := hD
            refine lv_iinc (v := nI (j + 1)) (lv' := [(3, .int (nI (j + 1))), (0, .ref p0), (1, .int x), (2, .ref z1)]) hx hb dX6_store_72 hl (k := 3) rfl (nI_1 j) (by decide) rfl (fun ls hl => ?_)
            refine lv_goto (tgt := 50) hx hb dX6_store_75 (by decide) ?_
            exact ih50 (j + 1) (upd F (x.toNatClampNeg * 3 + j) (nu j)) (by omega) (by omega) _ _ _ (hP.sub [5, 0, 1, 2, 3, 4] rfl) (hD.sub [5, 0, 1, 2, 3, 4] (by decide) rfl) hS (lv_sub hl [1, 2, 3, 0] rfl)
      exact loop50 ((3 - 0) + 1) 0 sd (Nat.lt_succ_self _) (Nat.zero_le _) _ _ _ hP hD hS (lv_sub hl [1, 2, 3, 0] rfl)
    · refine lv_aload_n hx hb dX6_store_22 rfl (lv_at hl 2 rfl) ?_
      refine lv_iconst (v := 0) hx hb dX6_store_23 (by decide) ?_
      refine he_iald hx hb hK hP 5 rfl (0) (by decide) (by decide) (by first | decide | assumption) (nu 0) rfl dX6_store_24 ?_
      refine lv_iconst (v := 0) hx hb dX6_store_25 (by decide) ?_
      refine lv_bipush (v := 9) hx hb dX6_store_26 (by decide) ?_
      refine he_ci (wc := []) (wr := [(oX6 p0 p1 p2 p3 p4 (nI w)), (aI g p1 24 sd), (aI g p2 10 fn), (aI g p3 6 st), (aI g p4 6 me), (aI g z1 3 nu)]) (va_runSN (As := [.int (nu 0), .int 0, .int 9]) (rest := []) ⟨hx, hb, hml, hown, hts⟩ (c_X10_within l g (nu 0) 0 9 H.size) ⟨(va_cnB 3 hts gX6_store_X10_within_n39 rfl rfl rfl nl39 iniX10 (by decide +kernel) ⟨Nat.le_of_ble_eq_true rfl, Nat.le_of_ble_eq_true rfl⟩), st_yX10_within, trivial⟩ (he_preS (wc := []) hK hP hD hS hA hE [] rfl rfl) rfl rfl hl.1 rfl (lv_room (Nat.le_of_ble_eq_true rfl)) dX6_store_28 ⟨(Nat.le_of_ble_eq_true rfl), (Nat.le_of_ble_eq_true rfl)⟩) hP hD hS hA [] [0, 1, 2, 3, 4, 5] rfl rfl rfl (by decide) (fun r_7 u_8 H locs h_9 hP hD hS => ?_)
      subst h_9
      have hP : va_P g.1 vwCl [(oX6 p0 p1 p2 p3 p4 (nI w)), (aI g p1 24 sd), (aI g p2 10 fn), (aI g p3 6 st), (aI g p4 6 me), (aI g z1 3 nu)] H := hP
      have hD : va_D A [(oX6 p0 p1 p2 p3 p4 (nI w)), (aI g p1 24 sd), (aI g p2 10 fn), (aI g p3 6 st), (aI g p4 6 me), (aI g z1 3 nu)] := hD
      refine lv_if_eq (tgt := 78) hx hb dX6_store_31 (by decide) (fun c_10 => ?_) (fun c_10 => ?_)
      · exact he_rv hQ hx hb hr hlk hP hD hS dX6_store_78 (Nat.le_of_ble_eq_true rfl) (Nat.le_of_ble_eq_true rfl) ((w, sd, fn, st, me)) (rfl) ((by (try dsimp only); omega))
      · refine lv_aload_n hx hb dX6_store_34 rfl (lv_at hl 0 rfl) ?_
        refine va_get (v := .ref p2) (T := TX6) (N := 5) hx hb hts inX6 hown hK hP 0 rfl rfl 1 (by decide) f18 (fun _ h9 => h9) rfl dX6_store_35 ?_
        refine lv_aload_n hx hb dX6_store_38 rfl (lv_at hl 2 rfl) ?_
        refine lv_iconst (v := 0) hx hb dX6_store_39 (by decide) ?_
        refine he_iald hx hb hK hP 5 rfl (0) (by decide) (by decide) (by first | decide | assumption) (nu 0) rfl dX6_store_40 ?_
        refine lv_aload_n hx hb dX6_store_41 rfl (lv_at hl 2 rfl) ?_
        refine lv_iconst (v := 1) hx hb dX6_store_42 (by decide) ?_
        refine he_iald hx hb hK hP 5 rfl (1) (by decide) (by decide) (by first | decide | assumption) (nu 1) rfl dX6_store_43 ?_
        refine he_iast hx hb hK hP hD hS 2 rfl ((nu 0).toNatClampNeg) (he_within_nat (B := 9) rfl (by decide) c_10).1 (Nat.lt_succ_of_le (he_within_nat (B := 9) rfl (by decide) c_10).2) (by first | decide | assumption) dX6_store_44 (fun H locs hP hD hS => ?_)
        have hP : va_P g.1 vwCl [(oX6 p0 p1 p2 p3 p4 (nI w)), (aI g p1 24 sd), (aI g p2 10 (upd fn ((nu 0).toNatClampNeg) (nu 1))), (aI g p3 6 st), (aI g p4 6 me), (aI g z1 3 nu)] H := hP
        have hD : va_D A [(oX6 p0 p1 p2 p3 p4 (nI w)), (aI g p1 24 sd), (aI g p2 10 (upd fn ((nu 0).toNatClampNeg) (nu 1))), (aI g p3 6 st), (aI g p4 6 me), (aI g z1 3 nu)] := hD
        refine lv_goto (tgt := 78) hx hb dX6_store_45 (by decide) ?_
        exact he_rv hQ hx hb hr hlk hP hD hS dX6_store_78 (Nat.le_of_ble_eq_true rfl) (Nat.le_of_ble_eq_true rfl) ((w, sd, upd fn ((nu 0).toNatClampNeg) (nu 1), st, me)) (rfl) ((by (try dsimp only); omega))
  · refine lv_aload_n hx hb dX6_store_4 rfl (lv_at hl 0 rfl) ?_
    refine lv_aload_n hx hb dX6_store_5 rfl (lv_at hl 2 rfl) ?_
    refine lv_iconst (v := 0) hx hb dX6_store_6 (by decide) ?_
    refine he_iald hx hb hK hP 5 rfl (0) (by decide) (by decide) (by first | decide | assumption) (nu 0) rfl dX6_store_7 ?_
    refine lv_aload_n hx hb dX6_store_8 rfl (lv_at hl 2 rfl) ?_
    refine lv_iconst (v := 1) hx hb dX6_store_9 (by decide) ?_
    refine he_iald hx hb hK hP 5 rfl (1) (by decide) (by decide) (by first | decide | assumption) (nu 1) rfl dX6_store_10 ?_
    refine he_cv (wc := [(oX6 p0 p1 p2 p3 p4 (nI w)), (aI g p1 24 sd), (aI g p2 10 fn), (aI g p3 6 st), (aI g p4 6 me)]) (wr := [(aI g z1 3 nu)]) (va_runV (As := [.int (nu 0), .int (nu 1)]) (rest := []) ⟨hx, hb, hml, hown, hts⟩ (g_X6_addWall l g p0 p1 p2 p3 p4 w sd fn st me (nu 0) (nu 1) (by first | assumption | decide | omega) H.size) (cwV 2 hts gX6_store_X6_addWall rfl rfl rfl (by decide +kernel) ⟨Nat.le_of_ble_eq_true rfl, Nat.le_of_ble_eq_true rfl⟩) (he_preV (wc := [(oX6 p0 p1 p2 p3 p4 (nI w)), (aI g p1 24 sd), (aI g p2 10 fn), (aI g p3 6 st), (aI g p4 6 me)]) hK hP hD hS hA hE [0, 1, 2, 3, 4] rfl rfl 0 rfl rfl) rfl rfl hl.1 rfl (lv_room (Nat.le_of_ble_eq_true rfl)) dX6_store_11 ⟨(Nat.le_of_ble_eq_true rfl), (Nat.le_of_ble_eq_true rfl)⟩) hP hD hS hA [0, 1, 2, 3, 4] [5] rfl rfl rfl (by decide) (fun u_12 H locs h_13 hP hD hS => ?_)
    obtain ⟨uw_14, ut_15, um_16⟩ := u_12
    try dsimp only at h_13
    have hf_17 := h_13
    have hP : va_P g.1 vwCl [(aI g z1 3 nu), (oX6 p0 p1 p2 p3 p4 (nI uw_14)), (aI g p1 24 sd), (aI g p2 10 fn), (aI g p3 6 ut_15), (aI g p4 6 um_16)] H := hP
    have hD : va_D A [(aI g z1 3 nu), (oX6 p0 p1 p2 p3 p4 (nI uw_14)), (aI g p1 24 sd), (aI g p2 10 fn), (aI g p3 6 ut_15), (aI g p4 6 um_16)] := hD
    refine lv_goto (tgt := 78) hx hb dX6_store_14 (by decide) ?_
    have hP := hP.sub (ws' := [(oX6 p0 p1 p2 p3 p4 (nI uw_14)), (aI g p1 24 sd), (aI g p2 10 fn), (aI g p3 6 ut_15), (aI g p4 6 um_16), (aI g z1 3 nu)]) [1, 2, 3, 4, 5, 0] rfl
    have hD := hD.sub (ws' := [(oX6 p0 p1 p2 p3 p4 (nI uw_14)), (aI g p1 24 sd), (aI g p2 10 fn), (aI g p3 6 ut_15), (aI g p4 6 um_16), (aI g z1 3 nu)]) [1, 2, 3, 4, 5, 0] (by decide) rfl
    exact he_rv hQ hx hb hr hlk hP hD hS dX6_store_78 (Nat.le_of_ble_eq_true rfl) (Nat.le_of_ble_eq_true rfl) ((uw_14, sd, fn, ut_15, um_16)) (rfl) ((by (try dsimp only); omega))
set_option maxHeartbeats 4000000 in
set_option maxRecDepth 100000 in
theorem g_X5_store (l : Launch) (g : he_G) (t0 : Nat) (t1 : Nat) (t2 : Nat) (pw : Int32) (pd : Nat → Int32) (wb : Nat → Int32) (z1 : Nat) (nu : Nat → Int32) (x : Int32) (hpd : (∃ ck, ck ≤ 99 ∧ pd 3 = nI ck)) (hwb : (∀ k, k < 36 → -1 ≤ wb k)) (h3 : x = 3 → ∃ ck, ck ≤ 99 ∧ nu 0 = nI ck) (h6 : x = 6 → -1 ≤ nu 0) : he_V l yX5_store wsX5_store 1 22 0 0 g [.ref t0, .int x, .ref z1] [(oX5 t0 t1 t2 pw), (aI g t1 6 pd), (aI g t2 36 wb), (aI g z1 3 nu)] (fun (u : (Nat → Int32) × (Nat → Int32)) => (∃ ck, ck ≤ 99 ∧ u.1 3 = nI ck) ∧ ((∀ k, k < 36 → -1 ≤ u.2 k))) (fun (u : (Nat → Int32) × (Nat → Int32)) => [(oX5 t0 t1 t2 pw), (aI g t1 6 u.1), (aI g t2 36 u.2), (aI g z1 3 nu)]) := by
  refine he_begin (l := l) (g := g) (y := yX5_store) (wl := wsX5_store) (fr := 1) (lo := 22) (mc := 0) (ms := 0) (av := [.ref t0, .int x, .ref z1]) (ws := [(oX5 t0 t1 t2 pw), (aI g t1 6 pd), (aI g t2 36 wb), (aI g z1 3 nu)]) (cc := cX5_store) (maxL := 3) (ret := none) (fun A => va_Qv (fun (u : (Nat → Int32) × (Nat → Int32)) => (∃ ck, ck ≤ 99 ∧ u.1 3 = nI ck) ∧ ((∀ k, k < 36 → -1 ≤ u.2 k))) (fun u t => he_post g A ((fun (u : (Nat → Int32) × (Nat → Int32)) => [(oX5 t0 t1 t2 pw), (aI g t1 6 u.1), (aI g t2 36 u.2), (aI g z1 3 nu)]) u) t) A) (by decide) rfl (Nat.le_of_ble_eq_true rfl) ?_
  intro p e s m args below meth c A ls H locs Q hQ hB
  obtain ⟨hx, hb, hr, hml, hown, hts, hlk, hin, hP, hK, hD, hS, hA, hE, hl⟩ := hB
  have hl : lv_has ls 3 [(0, .ref t0), (1, .int x), (2, .ref z1)] := hl
  have f11 := hts (.fieldLink RX5 11 "HiredEnemy$Pact" "said" "[I") (iwoX5_store (k := 1) rfl)
  have inX5 : ∀ w ∈ wsX50, w ∈ wsX5_store := innX5_store_X5
  have nl37 := hE.nest (RX5, 37, yX10_within) (by decide +kernel)
  have iniX10 := hts (.initialized RX10) (iwoX5_store (k := 3) rfl)
  have st_yX10_within := hts (.static yX10_within) (iwoX5_store (k := 2) rfl)
  have f15 := hts (.fieldLink RX5 15 "HiredEnemy$Pact" "wallByMonth" "[I") (iwoX5_store (k := 0) rfl)
  refine lv_iload_n hx hb dX5_store_0 rfl (lv_at hl 1 rfl) ?_
  refine lv_bipush (v := 6) hx hb dX5_store_1 (by decide) ?_
  refine lv_icmp_ne (tgt := 32) hx hb dX5_store_3 (by decide) (fun c_1 => ?_) (fun c_1 => ?_)
  · refine lv_iload_n hx hb dX5_store_32 rfl (lv_at hl 1 rfl) ?_
    refine lv_iconst (v := 0) hx hb dX5_store_33 (by decide) ?_
    refine lv_aload_n hx hb dX5_store_34 rfl (lv_at hl 0 rfl) ?_
    refine va_get (v := .ref t1) (T := TX5) (N := 3) hx hb hts inX5 hown hK hP 0 rfl rfl 0 (by decide) f11 (fun _ h9 => h9) rfl dX5_store_35 ?_
    refine va_alen (v := 6) hx hb hK hP 1 1 rfl rfl rfl dX5_store_38 ?_
    refine lv_iconst (v := 1) hx hb dX5_store_39 (by decide) ?_
    refine lv_isub hx hb dX5_store_40 ?_
    refine he_top (5) (by decide) ?_
    refine he_ci (wc := []) (wr := [(oX5 t0 t1 t2 pw), (aI g t1 6 pd), (aI g t2 36 wb), (aI g z1 3 nu)]) (va_runSN (As := [.int x, .int 0, .int 5]) (rest := []) ⟨hx, hb, hml, hown, hts⟩ (c_X10_within l g x 0 5 H.size) ⟨(va_cnB 3 hts gX5_store_X10_within_n37 rfl rfl rfl nl37 iniX10 (by decide +kernel) ⟨Nat.le_of_ble_eq_true rfl, Nat.le_of_ble_eq_true rfl⟩), st_yX10_within, trivial⟩ (he_preS (wc := []) hK hP hD hS hA hE [] rfl rfl) rfl rfl hl.1 rfl (lv_room (Nat.le_of_ble_eq_true rfl)) dX5_store_41 ⟨(Nat.le_of_ble_eq_true rfl), (Nat.le_of_ble_eq_true rfl)⟩) hP hD hS hA [] [0, 1, 2, 3] rfl rfl rfl (by decide) (fun r_2 u_3 H locs h_4 hP hD hS => ?_)
    subst h_4
    have hP : va_P g.1 vwCl [(oX5 t0 t1 t2 pw), (aI g t1 6 pd), (aI g t2 36 wb), (aI g z1 3 nu)] H := hP
    have hD : va_D A [(oX5 t0 t1 t2 pw), (aI g t1 6 pd), (aI g t2 36 wb), (aI g z1 3 nu)] := hD
    refine lv_if_eq (tgt := 56) hx hb dX5_store_44 (by decide) (fun c_5 => ?_) (fun c_5 => ?_)
    · exact he_rv hQ hx hb hr hlk hP hD hS dX5_store_56 (Nat.le_of_ble_eq_true rfl) (Nat.le_of_ble_eq_true rfl) ((pd, wb)) (rfl) (⟨hpd, hwb⟩)
    · refine lv_aload_n hx hb dX5_store_47 rfl (lv_at hl 0 rfl) ?_
      refine va_get (v := .ref t1) (T := TX5) (N := 3) hx hb hts inX5 hown hK hP 0 rfl rfl 0 (by decide) f11 (fun _ h9 => h9) rfl dX5_store_48 ?_
      refine lv_iload_n hx hb dX5_store_51 rfl (lv_at hl 1 rfl) ?_
      refine lv_aload_n hx hb dX5_store_52 rfl (lv_at hl 2 rfl) ?_
      refine lv_iconst (v := 0) hx hb dX5_store_53 (by decide) ?_
      refine he_iald hx hb hK hP 3 rfl (0) (by decide) (by decide) (by first | decide | assumption) (nu 0) rfl dX5_store_54 ?_
      refine he_iast hx hb hK hP hD hS 1 rfl (x.toNatClampNeg) (he_within_nat (B := 5) rfl (by decide) c_5).1 (Nat.lt_succ_of_le (he_within_nat (B := 5) rfl (by decide) c_5).2) (by first | decide | assumption) dX5_store_55 (fun H locs hP hD hS => ?_)
      have hP : va_P g.1 vwCl [(oX5 t0 t1 t2 pw), (aI g t1 6 (upd pd x.toNatClampNeg (nu 0))), (aI g t2 36 wb), (aI g z1 3 nu)] H := hP
      have hD : va_D A [(oX5 t0 t1 t2 pw), (aI g t1 6 (upd pd x.toNatClampNeg (nu 0))), (aI g t2 36 wb), (aI g z1 3 nu)] := hD
      exact he_rv hQ hx hb hr hlk hP hD hS dX5_store_56 (Nat.le_of_ble_eq_true rfl) (Nat.le_of_ble_eq_true rfl) ((upd pd x.toNatClampNeg (nu 0), wb)) (rfl) (⟨upd_3 hpd (he_within_nat (B := 5) rfl (by (try dsimp only); decide) c_5).1 h3, hwb⟩)
  · refine lv_aload_n hx hb dX5_store_6 rfl (lv_at hl 2 rfl) ?_
    refine lv_iconst (v := 1) hx hb dX5_store_7 (by decide) ?_
    refine he_iald hx hb hK hP 3 rfl (1) (by decide) (by decide) (by first | decide | assumption) (nu 1) rfl dX5_store_8 ?_
    refine lv_iconst (v := 0) hx hb dX5_store_9 (by decide) ?_
    refine lv_bipush (v := 35) hx hb dX5_store_10 (by decide) ?_
    refine he_ci (wc := []) (wr := [(oX5 t0 t1 t2 pw), (aI g t1 6 pd), (aI g t2 36 wb), (aI g z1 3 nu)]) (va_runSN (As := [.int (nu 1), .int 0, .int 35]) (rest := []) ⟨hx, hb, hml, hown, hts⟩ (c_X10_within l g (nu 1) 0 35 H.size) ⟨(va_cnB 3 hts gX5_store_X10_within_n37 rfl rfl rfl nl37 iniX10 (by decide +kernel) ⟨Nat.le_of_ble_eq_true rfl, Nat.le_of_ble_eq_true rfl⟩), st_yX10_within, trivial⟩ (he_preS (wc := []) hK hP hD hS hA hE [] rfl rfl) rfl rfl hl.1 rfl (lv_room (Nat.le_of_ble_eq_true rfl)) dX5_store_12 ⟨(Nat.le_of_ble_eq_true rfl), (Nat.le_of_ble_eq_true rfl)⟩) hP hD hS hA [] [0, 1, 2, 3] rfl rfl rfl (by decide) (fun r_6 u_7 H locs h_8 hP hD hS => ?_)
    subst h_8
    have hP : va_P g.1 vwCl [(oX5 t0 t1 t2 pw), (aI g t1 6 pd), (aI g t2 36 wb), (aI g z1 3 nu)] H := hP
    have hD : va_D A [(oX5 t0 t1 t2 pw), (aI g t1 6 pd), (aI g t2 36 wb), (aI g z1 3 nu)] := hD
    refine lv_if_eq (tgt := 56) hx hb dX5_store_15 (by decide) (fun c_9 => ?_) (fun c_9 => ?_)
    · exact he_rv hQ hx hb hr hlk hP hD hS dX5_store_56 (Nat.le_of_ble_eq_true rfl) (Nat.le_of_ble_eq_true rfl) ((pd, wb)) (rfl) (⟨hpd, hwb⟩)
    · refine lv_aload_n hx hb dX5_store_18 rfl (lv_at hl 0 rfl) ?_
      refine va_get (v := .ref t2) (T := TX5) (N := 3) hx hb hts inX5 hown hK hP 0 rfl rfl 1 (by decide) f15 (fun _ h9 => h9) rfl dX5_store_19 ?_
      refine lv_aload_n hx hb dX5_store_22 rfl (lv_at hl 2 rfl) ?_
      refine lv_iconst (v := 1) hx hb dX5_store_23 (by decide) ?_
      refine he_iald hx hb hK hP 3 rfl (1) (by decide) (by decide) (by first | decide | assumption) (nu 1) rfl dX5_store_24 ?_
      refine lv_aload_n hx hb dX5_store_25 rfl (lv_at hl 2 rfl) ?_
      refine lv_iconst (v := 0) hx hb dX5_store_26 (by decide) ?_
      refine he_iald hx hb hK hP 3 rfl (0) (by decide) (by decide) (by first | decide | assumption) (nu 0) rfl dX5_store_27 ?_
      refine he_iast hx hb hK hP hD hS 2 rfl ((nu 1).toNatClampNeg) (he_within_nat (B := 35) rfl (by decide) c_9).1 (Nat.lt_succ_of_le (he_within_nat (B := 35) rfl (by decide) c_9).2) (by first | decide | assumption) dX5_store_28 (fun H locs hP hD hS => ?_)
      have hP : va_P g.1 vwCl [(oX5 t0 t1 t2 pw), (aI g t1 6 pd), (aI g t2 36 (upd wb ((nu 1).toNatClampNeg) (nu 0))), (aI g z1 3 nu)] H := hP
      have hD : va_D A [(oX5 t0 t1 t2 pw), (aI g t1 6 pd), (aI g t2 36 (upd wb ((nu 1).toNatClampNeg) (nu 0))), (aI g z1 3 nu)] := hD
      refine lv_goto (tgt := 56) hx hb dX5_store_29 (by decide) ?_
      exact he_rv hQ hx hb hr hlk hP hD hS dX5_store_56 (Nat.le_of_ble_eq_true rfl) (Nat.le_of_ble_eq_true rfl) ((pd, upd wb ((nu 1).toNatClampNeg) (nu 0))) (rfl) (⟨hpd, fun k hk => upd_ge hwb (h6 c_1) k hk⟩)
set_option maxHeartbeats 4000000 in
set_option maxRecDepth 100000 in
theorem g_X5_breachesTold (l : Launch) (g : he_G) (t0 : Nat) (t1 : Nat) (t2 : Nat) (pw : Int32) (wb : Nat → Int32)  : he_I l yX5_breachesTold wsX5_breachesTold 0 0 0 0 g [.ref t0] [(oX5 t0 t1 t2 pw), (aI g t2 36 wb)] (fun (r : Int32) (u : Unit) => True) (fun (u : Unit) => [(oX5 t0 t1 t2 pw), (aI g t2 36 wb)]) := by
  refine he_begin (l := l) (g := g) (y := yX5_breachesTold) (wl := wsX5_breachesTold) (fr := 0) (lo := 0) (mc := 0) (ms := 0) (av := [.ref t0]) (ws := [(oX5 t0 t1 t2 pw), (aI g t2 36 wb)]) (cc := cX5_breachesTold) (maxL := 6) (ret := (some .int)) (fun A => va_Qi (fun (r : Int32) (u : Unit) => True) (fun u t => he_post g A ((fun (u : Unit) => [(oX5 t0 t1 t2 pw), (aI g t2 36 wb)]) u) t) A) (by decide) rfl (Nat.le_of_ble_eq_true rfl) ?_
  intro p e s m args below meth c A ls H locs Q hQ hB
  obtain ⟨hx, hb, hr, hml, hown, hts, hlk, hin, hP, hK, hD, hS, hA, hE, hl⟩ := hB
  have hl : lv_has ls 6 [(0, .ref t0)] := hl
  have f15 := hts (.fieldLink RX5 15 "HiredEnemy$Pact" "wallByMonth" "[I") (iwoX5_breachesTold (k := 0) rfl)
  have inX5 : ∀ w ∈ wsX50, w ∈ wsX5_breachesTold := innX5_breachesTold_X5
  refine lv_iconst (v := 0) hx hb dX5_breachesTold_0 (by decide) ?_
  refine lv_istore_n (lv' := [(1, .int 0), (0, .ref t0)]) hx hb dX5_breachesTold_1 rfl hl (by decide) rfl (fun ls hl => ?_)
  refine lv_aload_n hx hb dX5_breachesTold_2 rfl (lv_at hl 1 rfl) ?_
  refine va_get (v := .ref t2) (T := TX5) (N := 3) hx hb hts inX5 hown hK hP 0 rfl rfl 1 (by decide) f15 (fun _ h9 => h9) rfl dX5_breachesTold_3 ?_
  refine lv_astore_n (lv' := [(2, .ref t2), (1, .int 0), (0, .ref t0)]) hx hb dX5_breachesTold_6 rfl hl (by decide) rfl (fun ls hl => ?_)
  refine lv_aload_n hx hb dX5_breachesTold_7 rfl (lv_at hl 0 rfl) ?_
  refine va_alen (v := 36) hx hb hK hP 1 1 rfl rfl rfl dX5_breachesTold_8 ?_
  refine lv_istore_n (lv' := [(3, .int 36), (2, .ref t2), (1, .int 0), (0, .ref t0)]) hx hb dX5_breachesTold_9 rfl hl (by decide) rfl (fun ls hl => ?_)
  refine lv_iconst (v := 0) hx hb dX5_breachesTold_10 (by decide) ?_
  refine lv_istore (lv' := [(4, .int 0), (3, .int 36), (2, .ref t2), (1, .int 0), (0, .ref t0)]) hx hb dX5_breachesTold_11 hl (by decide) rfl (fun ls hl => ?_)
  have loop13 : ∀ (n9 : Nat) (j : Nat) (ac : Int32), 36 - j < n9 → (j ≤ 36) → ∀ (H : Heap) (locs : List Loc) (ls : Array Slot), va_P g.1 vwCl [(oX5 t0 t1 t2 pw), (aI g t2 36 wb)] H → va_D A [(oX5 t0 t1 t2 pw), (aI g t2 36 wb)] → va_S A s.heap H locs → lv_has ls 6 [(0, .ref t0), (1, .int ac), (2, .ref t2), (3, .int 36), (4, .int (nI j))] → W p l e (he_room 0 0 0 0) s m args below meth c H locs 0 0 Q (F0 m 13 ls []) := by
    intro n9
    induction n9 with
    | zero => intro j ac hm9; exact absurd hm9 (Nat.not_lt_zero _)
    | succ n9 ih13 =>
      intro j ac hm9 hj H locs ls hP hD hS hl
      refine lv_iload hx hb dX5_breachesTold_13 (lv_at hl 4 rfl) ?_
      refine lv_iload_n hx hb dX5_breachesTold_15 rfl (lv_at hl 3 rfl) ?_
      refine lv_icmp_ge (tgt := 40) hx hb dX5_breachesTold_16 (by decide) (fun c_1 => ?_) (fun c_1 => ?_)
      · have k_2 : 36 ≤ j := (he_cle (a := 36) (b := j) (by decide) rfl (by omega) (by omega)).mp c_1
        refine lv_iload_n hx hb dX5_breachesTold_40 rfl (lv_at hl 1 rfl) ?_
        exact he_ri hQ hx hb hr hlk hP hD hS dX5_breachesTold_41 (Nat.le_of_ble_eq_true rfl) (Nat.le_of_ble_eq_true rfl) (()) (rfl) (trivial)
      · have k_3 : ¬ (36 ≤ j) := fun h9 => c_1 ((he_cle (a := 36) (b := j) (by decide) rfl (by omega) (by omega)).mpr h9)
        refine lv_aload_n hx hb dX5_breachesTold_19 rfl (lv_at hl 2 rfl) ?_
        refine lv_iload hx hb dX5_breachesTold_20 (lv_at hl 4 rfl) ?_
        refine he_iald hx hb hK hP 1 rfl (j) rfl (by first | assumption | decide | omega) (by first | decide | assumption) (wb j) rfl dX5_breachesTold_22 ?_
        refine lv_istore (lv' := [(5, .int (wb j)), (0, .ref t0), (1, .int ac), (2, .ref t2), (3, .int 36), (4, .int (nI j))]) hx hb dX5_breachesTold_23 hl (by decide) rfl (fun ls hl => ?_)
        refine lv_iload hx hb dX5_breachesTold_25 (lv_at hl 0 rfl) ?_
        refine lv_iconst (v := (-1)) hx hb dX5_breachesTold_27 (by decide) ?_
        refine lv_icmp_eq (tgt := 34) hx hb dX5_breachesTold_28 (by decide) (fun c_4 => ?_) (fun c_4 => ?_)
        · refine lv_iinc (v := nI (j + 1)) (lv' := [(4, .int (nI (j + 1))), (5, .int (wb j)), (0, .ref t0), (1, .int ac), (2, .ref t2), (3, .int 36)]) hx hb dX5_breachesTold_34 hl (k := 5) rfl (nI_1 j) (by decide) rfl (fun ls hl => ?_)
          refine lv_goto (tgt := 13) hx hb dX5_breachesTold_37 (by decide) ?_
          exact ih13 (j + 1) ac (by omega) (by omega) _ _ _ hP hD hS (lv_sub hl [2, 3, 4, 5, 0] rfl)
        · refine lv_iinc (v := ac + 1) (lv' := [(1, .int (ac + 1)), (5, .int (wb j)), (0, .ref t0), (2, .ref t2), (3, .int 36), (4, .int (nI j))]) hx hb dX5_breachesTold_31 hl (k := 2) rfl rfl (by decide) rfl (fun ls hl => ?_)
          refine lv_iinc (v := nI (j + 1)) (lv' := [(4, .int (nI (j + 1))), (1, .int (ac + 1)), (5, .int (wb j)), (0, .ref t0), (2, .ref t2), (3, .int 36)]) hx hb dX5_breachesTold_34 hl (k := 5) rfl (nI_1 j) (by decide) rfl (fun ls hl => ?_)
          refine lv_goto (tgt := 13) hx hb dX5_breachesTold_37 (by decide) ?_
          exact ih13 (j + 1) (ac + 1) (by omega) (by omega) _ _ _ hP hD hS (lv_sub hl [3, 1, 4, 5, 0] rfl)
  exact loop13 ((36 - 0) + 1) 0 0 (Nat.lt_succ_self _) (Nat.zero_le _) _ _ _ hP hD hS (lv_sub hl [4, 3, 2, 1, 0] rfl)
set_option maxHeartbeats 4000000 in
set_option maxRecDepth 100000 in
theorem g_X5_answer (l : Launch) (g : he_G) (t0 : Nat) (t1 : Nat) (t2 : Nat) (pw : Int32) (pd : Nat → Int32) (wb : Nat → Int32) (k : Nat) (hk : k ≤ 6) : he_I l yX5_answer wsX5_answer 1 25 0 0 g [.ref t0, .int (nI k)] [(oX5 t0 t1 t2 pw), (aI g t1 6 pd), (aI g t2 36 wb)] (fun (r : Int32) (u : Unit) => True) (fun (u : Unit) => [(oX5 t0 t1 t2 pw), (aI g t1 6 pd), (aI g t2 36 wb)]) := by
  refine he_begin (l := l) (g := g) (y := yX5_answer) (wl := wsX5_answer) (fr := 1) (lo := 25) (mc := 0) (ms := 0) (av := [.ref t0, .int (nI k)]) (ws := [(oX5 t0 t1 t2 pw), (aI g t1 6 pd), (aI g t2 36 wb)]) (cc := cX5_answer) (maxL := 2) (ret := (some .int)) (fun A => va_Qi (fun (r : Int32) (u : Unit) => True) (fun u t => he_post g A ((fun (u : Unit) => [(oX5 t0 t1 t2 pw), (aI g t1 6 pd), (aI g t2 36 wb)]) u) t) A) (by decide) rfl (Nat.le_of_ble_eq_true rfl) ?_
  intro p e s m args below meth c A ls H locs Q hQ hB
  obtain ⟨hx, hb, hr, hml, hown, hts, hlk, hin, hP, hK, hD, hS, hA, hE, hl⟩ := hB
  have hl : lv_has ls 2 [(0, .ref t0), (1, .int (nI k))] := hl
  have f11 := hts (.fieldLink RX5 11 "HiredEnemy$Pact" "said" "[I") (iwoX5_answer (k := 0) rfl)
  have inX5 : ∀ w ∈ wsX50, w ∈ wsX5_answer := innX5_answer_X5
  refine lv_iload_n hx hb dX5_answer_0 rfl (lv_at hl 1 rfl) ?_
  refine lv_bipush (v := 6) hx hb dX5_answer_1 (by decide) ?_
  refine lv_icmp_ne (tgt := 11) hx hb dX5_answer_3 (by decide) (fun c_1 => ?_) (fun c_1 => ?_)
  · have k_2 : ¬ (k = 6) := fun h9 => c_1 ((he_ceq (a := k) (b := 6) rfl (by decide) (by omega) (by omega)).mpr h9)
    refine lv_iload_n hx hb dX5_answer_11 rfl (lv_at hl 1 rfl) ?_
    refine lv_iconst (v := 1) hx hb dX5_answer_12 (by decide) ?_
    refine lv_icmp_ne (tgt := 23) hx hb dX5_answer_13 (by decide) (fun c_3 => ?_) (fun c_3 => ?_)
    · have k_4 : ¬ (k = 1) := fun h9 => c_3 ((he_ceq (a := k) (b := 1) rfl (by decide) (by omega) (by omega)).mpr h9)
      refine lv_aload_n hx hb dX5_answer_23 rfl (lv_at hl 0 rfl) ?_
      refine va_get (v := .ref t1) (T := TX5) (N := 3) hx hb hts inX5 hown hK hP 0 rfl rfl 0 (by decide) f11 (fun _ h9 => h9) rfl dX5_answer_24 ?_
      refine lv_iload_n hx hb dX5_answer_27 rfl (lv_at hl 1 rfl) ?_
      refine he_iald hx hb hK hP 1 rfl (k) rfl (by first | assumption | decide | omega) (by first | decide | assumption) (pd k) rfl dX5_answer_28 ?_
      exact he_ri hQ hx hb hr hlk hP hD hS dX5_answer_29 (Nat.le_of_ble_eq_true rfl) (Nat.le_of_ble_eq_true rfl) (()) (rfl) (trivial)
    · have k_5 : k = 1 := (he_ceq (a := k) (b := 1) rfl (by decide) (by omega) (by omega)).mp c_3
      refine lv_aload_n hx hb dX5_answer_16 rfl (lv_at hl 0 rfl) ?_
      refine he_ci (wc := [(oX5 t0 t1 t2 pw), (aI g t1 6 pd)]) (wr := [(aI g t2 36 wb)]) (va_runV (As := []) (rest := []) ⟨hx, hb, hml, hown, hts⟩ (c_X5_winterPay l g t0 t1 t2 pw pd H.size) (cwV 0 hts gX5_answer_X5_winterPay rfl rfl rfl (by decide +kernel) ⟨Nat.le_of_ble_eq_true rfl, Nat.le_of_ble_eq_true rfl⟩) (he_preV (wc := [(oX5 t0 t1 t2 pw), (aI g t1 6 pd)]) hK hP hD hS hA hE [0, 1] rfl rfl 0 rfl rfl) rfl rfl hl.1 rfl (lv_room (Nat.le_of_ble_eq_true rfl)) dX5_answer_17 ⟨(Nat.le_of_ble_eq_true rfl), (Nat.le_of_ble_eq_true rfl)⟩) hP hD hS hA [0, 1] [2] rfl rfl rfl (by decide) (fun r_6 u_7 H locs h_8 hP hD hS => ?_)
      subst h_8
      have hP : va_P g.1 vwCl [(aI g t2 36 wb), (oX5 t0 t1 t2 pw), (aI g t1 6 pd)] H := hP
      have hD : va_D A [(aI g t2 36 wb), (oX5 t0 t1 t2 pw), (aI g t1 6 pd)] := hD
      refine lv_goto (tgt := 29) hx hb dX5_answer_20 (by decide) ?_
      have hP := hP.sub (ws' := [(oX5 t0 t1 t2 pw), (aI g t1 6 pd), (aI g t2 36 wb)]) [1, 2, 0] rfl
      have hD := hD.sub (ws' := [(oX5 t0 t1 t2 pw), (aI g t1 6 pd), (aI g t2 36 wb)]) [1, 2, 0] (by decide) rfl
      exact he_ri hQ hx hb hr hlk hP hD hS dX5_answer_29 (Nat.le_of_ble_eq_true rfl) (Nat.le_of_ble_eq_true rfl) (()) (rfl) (trivial)
  · have k_9 : k = 6 := (he_ceq (a := k) (b := 6) rfl (by decide) (by omega) (by omega)).mp c_1
    refine lv_aload_n hx hb dX5_answer_6 rfl (lv_at hl 0 rfl) ?_
    refine he_ci (wc := [(oX5 t0 t1 t2 pw), (aI g t2 36 wb)]) (wr := [(aI g t1 6 pd)]) (va_runV (As := []) (rest := []) ⟨hx, hb, hml, hown, hts⟩ (g_X5_breachesTold l g t0 t1 t2 pw wb H.size) (cwV 0 hts gX5_answer_X5_breachesTold rfl rfl rfl (by decide +kernel) ⟨Nat.le_of_ble_eq_true rfl, Nat.le_of_ble_eq_true rfl⟩) (he_preV (wc := [(oX5 t0 t1 t2 pw), (aI g t2 36 wb)]) hK hP hD hS hA hE [0, 2] rfl rfl 0 rfl rfl) rfl rfl hl.1 rfl (lv_room (Nat.le_of_ble_eq_true rfl)) dX5_answer_7 ⟨(Nat.le_of_ble_eq_true rfl), (Nat.le_of_ble_eq_true rfl)⟩) hP hD hS hA [0, 2] [1] rfl rfl rfl (by decide) (fun r_10 u_11 H locs h_12 hP hD hS => ?_)
    have hP : va_P g.1 vwCl [(aI g t1 6 pd), (oX5 t0 t1 t2 pw), (aI g t2 36 wb)] H := hP
    have hD : va_D A [(aI g t1 6 pd), (oX5 t0 t1 t2 pw), (aI g t2 36 wb)] := hD
    have hP := hP.sub (ws' := [(oX5 t0 t1 t2 pw), (aI g t1 6 pd), (aI g t2 36 wb)]) [1, 0, 2] rfl
    have hD := hD.sub (ws' := [(oX5 t0 t1 t2 pw), (aI g t1 6 pd), (aI g t2 36 wb)]) [1, 0, 2] (by decide) rfl
    exact he_ri hQ hx hb hr hlk hP hD hS dX5_answer_10 (Nat.le_of_ble_eq_true rfl) (Nat.le_of_ble_eq_true rfl) (()) (rfl) (trivial)
