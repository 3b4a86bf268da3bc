theorem lp_cmp {Ln i : Nat} (hL : Ln ≤ 3072) (hi : i ≤ 3072) (h : ¬ (Int32.ofNat Ln - 6 < nI i)) : i + 6 ≤ Ln := by
  rcases Nat.lt_or_ge Ln 6 with q | q
  · exfalso
    have h9 : ∀ n : Nat, n ≤ 5 → Int32.ofNat n - 6 < 0 := by decide
    exact h (Int32.lt_of_lt_of_le (h9 Ln (by omega)) (nI_pos' (by omega)))
  · rw [show Int32.ofNat Ln - 6 = nI (Ln - 6) from pk_sub (a := Ln) (b := 6) q] at h
    have := (nI_ltI (a := Ln - 6) (b := i) (by omega) (by omega)).mpr
    rcases Nat.lt_or_ge (Ln - 6) i with c | c
    · exact absurd (this c) h
    · omega
theorem ts_out {x : Int32} (h : ¬ ∃ n : Nat, n ≤ 32 ∧ x = nI n) : x.toInt < 0 ∨ 32 < x.toInt := by
  apply Decidable.byContradiction
  intro h9
  apply h
  refine ⟨x.toInt.toNat, by omega, ?_⟩
  rw [← Int32.toInt_inj]
  show x.toInt = (Int32.ofNat x.toInt.toNat).toInt
  rw [Int32.toInt_ofNat_of_lt (by omega)]
  omega
set_option maxHeartbeats 8000000 in
set_option maxRecDepth 100000 in
theorem lw_loop {p : Program} {e : Env} {s : State} {m : MethodId} {below : List Frame} {meth : Method} {c : Code} (l : Launch) (hlt : l.stackTraces = false) (g : he_G) {b Ln : Nat} {xs : Nat → Int32} (C0 : lw_C p s m meth c b Ln xs g) (hL : Ln ≤ 3072) (x0 m0 o0 : Nat) : ∀ (n9 i : Nat) (S : AbS) (t : Int32) (fo : Nat → Int64) (W9 : va_W) (H : Heap) (locs : List Loc) (ls : Array Slot), Ln + 6 - i < n9 → i ≤ Ln → okS S → IL g x0 m0 o0 S S t fo W9 → va_P g.1 vwCl W9 H → va_D (lw_A s) W9 → va_S (lw_A s) s.heap H locs → lv_has ls 8 [(0, .ref b), (1, .ref x0), (2, .ref m0), (3, .ref o0), (4, .int (nI i))] → W p l e room_1 s m #[Value.ref b] below meth c H locs (1000 + 4 * i) (100000 + 700 * i) (lw_Z below #[Value.ref b] s) (F0 m 23 ls []) := by
  intro n9
  induction n9 with
  | zero => intro i S t fo W9 H locs ls hm9; exact absurd hm9 (Nat.not_lt_zero _)
  | succ n9 ih =>
    intro i S t fo W9 H locs ls hm9 hiL hOk hI hP hD hS hl
    have C1 := C0
    obtain ⟨hx, hb, hr, hml, hown, hts, hX, hbl, hlk, hK, hE, hA, hbA, hNc⟩ := C1
    refine lv_iload hx hb dL_law_23 (lv_at hl 4 rfl) ?_
    refine lv_aload_n hx hb dL_law_25 rfl (lv_at hl 0 rfl) ?_
    refine va_slen hx hb hX hbl hbA hS dL_law_26 ?_
    refine lv_bipush (v := 6) hx hb dL_law_27 (by decide) ?_
    refine lv_isub hx hb dL_law_29 ?_
    refine lv_icmp_gt (tgt := 1347) hx hb dL_law_30 (by decide) (fun c1 => ?_) (fun c1 => ?_)
    · refine lv_iconst (v := 1) hx hb dL_law_1347 (by decide) ?_
      refine va_forget (fun q hq => hS.2.2 q hq) ?_
      refine W.widen (k := 601024) (n := 7293034) (by omega) (by omega) ?_
      exact lw_ret hx hb hr hlk dL_law_1348
    · have hi6 : i + 6 ≤ Ln := lp_cmp hL (by omega) c1
      have kk : ∀ (S2 : AbS) (t2 : Int32) (fo2 : Nat → Int64) (W2 : va_W) (H2 : Heap) (locs2 : List Loc) (ls2 : Array Slot), okS S2 → IL g x0 m0 o0 S2 S2 t2 fo2 W2 → va_P g.1 vwCl W2 H2 → va_D (lw_A s) W2 → va_S (lw_A s) s.heap H2 locs2 → lv_has ls2 8 [(0, .ref b), (1, .ref x0), (2, .ref m0), (3, .ref o0), (4, .int (nI i))] → W p l e room_1 s m #[Value.ref b] below meth c H2 locs2 (1000 + 4 * (i + 6)) (100000 + 700 * (i + 6)) (lw_Z below #[Value.ref b] s) (F0 m 1341 ls2 []) := by
        intro S2 t2 fo2 W2 H2 locs2 ls2 hOk2 hI2 hP2 hD2 hS2 hl2
        refine lv_iinc (v := nI (i + 6)) (lv' := [(4, .int (nI (i + 6))), (0, .ref b), (1, .ref x0), (2, .ref m0), (3, .ref o0)]) hx hb dL_law_1341 hl2 (k := 4) rfl (nI_add i 6) (by decide) rfl (fun ls hl => ?_)
        refine lv_goto (tgt := 23) hx hb dL_law_1344 (by decide) ?_
        exact ih (i + 6) S2 t2 fo2 W2 H2 locs2 ls (by omega) hi6 hOk2 hI2 hP2 hD2 hS2 (lv_sub hl [1, 2, 3, 4, 0] rfl)
      refine lv_aload_n hx hb dL_law_33 rfl (lv_at hl 0 rfl) ?_
      refine lv_iload hx hb dL_law_34 (lv_at hl 4 rfl) ?_
      refine he_sld hx hb hX hbl hbA hS (i) rfl (by omega) (by omega) (xs i) rfl dL_law_36 ?_
      refine lv_bipush (v := 63) hx hb dL_law_37 (by decide) ?_
      refine lv_iand hx hb dL_law_39 ?_
      rcases Decidable.em (∃ n : Nat, n ≤ 32 ∧ xs i &&& 63 = nI n) with ⟨n, hn, e⟩ | hno
      · rcases (show n = 0 ∨ n = 1 ∨ n = 2 ∨ n = 3 ∨ n = 4 ∨ n = 5 ∨ n = 6 ∨ n = 7 ∨ n = 8 ∨ n = 9 ∨ n = 10 ∨ n = 11 ∨ n = 12 ∨ n = 13 ∨ n = 14 ∨ n = 15 ∨ n = 16 ∨ n = 17 ∨ n = 18 ∨ n = 19 ∨ n = 20 ∨ n = 21 ∨ n = 22 ∨ n = 23 ∨ n = 24 ∨ n = 25 ∨ n = 26 ∨ n = 27 ∨ n = 28 ∨ n = 29 ∨ n = 30 ∨ n = 31 ∨ n = 32 by omega) with rfl | rfl | rfl | rfl | rfl | rfl | rfl | rfl | rfl | rfl | rfl | rfl | rfl | rfl | rfl | rfl | rfl | rfl | rfl | rfl | rfl | rfl | rfl | rfl | rfl | rfl | rfl | rfl | rfl | rfl | rfl | rfl | rfl
        · refine he_top (0) e ?_
          refine lv_tableIn (tgt := 188) hx hb dL_law_40 (by decide) (by decide) rfl (by decide) ?_
          exact lc_feed l hlt g C0 i hi6 hL x0 m0 o0 S t fo W9 hOk hI hP hD hS hl kk
        · refine he_top (1) e ?_
          refine lv_tableIn (tgt := 261) hx hb dL_law_40 (by decide) (by decide) rfl (by decide) ?_
          exact lc_siege l hlt g C0 i hi6 hL x0 m0 o0 S t fo W9 hOk hI hP hD hS hl kk
        · refine he_top (2) e ?_
          refine lv_tableIn (tgt := 289) hx hb dL_law_40 (by decide) (by decide) rfl (by decide) ?_
          exact lc_contract l hlt g C0 i hi6 hL x0 m0 o0 S t fo W9 hOk hI hP hD hS hl kk
        · refine he_top (3) e ?_
          refine lv_tableIn (tgt := 317) hx hb dL_law_40 (by decide) (by decide) rfl (by decide) ?_
          exact lc_fault l hlt g C0 i hi6 hL x0 m0 o0 S t fo W9 hOk hI hP hD hS hl kk
        · refine he_top (4) e ?_
          refine lv_tableIn (tgt := 330) hx hb dL_law_40 (by decide) (by decide) rfl (by decide) ?_
          exact lc_told l hlt g C0 i hi6 hL x0 m0 o0 S t fo W9 hOk hI hP hD hS hl kk
        · refine he_top (5) e ?_
          refine lv_tableIn (tgt := 358) hx hb dL_law_40 (by decide) (by decide) rfl (by decide) ?_
          exact lc_wall l hlt g C0 i hi6 hL x0 m0 o0 S t fo W9 hOk hI hP hD hS hl kk
        · refine he_top (6) e ?_
          refine lv_tableIn (tgt := 398) hx hb dL_law_40 (by decide) (by decide) rfl (by decide) ?_
          exact lc_rule l hlt g C0 i hi6 hL x0 m0 o0 S t fo W9 hOk hI hP hD hS hl kk
        · refine he_top (7) e ?_
          refine lv_tableIn (tgt := 438) hx hb dL_law_40 (by decide) (by decide) rfl (by decide) ?_
          exact lc_wants l hlt g C0 i hi6 hL x0 m0 o0 S t fo W9 hOk hI hP hD hS hl kk
        · refine he_top (8) e ?_
          refine lv_tableIn (tgt := 478) hx hb dL_law_40 (by decide) (by decide) rfl (by decide) ?_
          exact lc_sign l hlt g C0 i hi6 hL x0 m0 o0 S t fo W9 hOk hI hP hD hS hl kk
        · refine he_top (9) e ?_
          refine lv_tableIn (tgt := 506) hx hb dL_law_40 (by decide) (by decide) rfl (by decide) ?_
          exact lc_months l hlt g C0 i hi6 hL x0 m0 o0 S t fo W9 hOk hI hP hD hS hl kk
        · refine he_top (10) e ?_
          refine lv_tableIn (tgt := 534) hx hb dL_law_40 (by decide) (by decide) rfl (by decide) ?_
          exact lc_undo l hlt g C0 i hi6 hL x0 m0 o0 S t fo W9 hOk hI hP hD hS hl kk
        · refine he_top (11) e ?_
          refine lv_tableIn (tgt := 562) hx hb dL_law_40 (by decide) (by decide) rfl (by decide) ?_
          exact lc_sums l hlt g C0 i hi6 hL x0 m0 o0 S t fo W9 hOk hI hP hD hS hl kk
        · refine he_top (12) e ?_
          refine lv_tableIn (tgt := 590) hx hb dL_law_40 (by decide) (by decide) rfl (by decide) ?_
          exact lc_corks l hlt g C0 i hi6 hL x0 m0 o0 S t fo W9 hOk hI hP hD hS hl kk
        · refine he_top (13) e ?_
          refine lv_tableIn (tgt := 630) hx hb dL_law_40 (by decide) (by decide) rfl (by decide) ?_
          exact lc_would l hlt g C0 i hi6 hL x0 m0 o0 S t fo W9 hOk hI hP hD hS hl kk
        · refine he_top (14) e ?_
          refine lv_tableIn (tgt := 682) hx hb dL_law_40 (by decide) (by decide) rfl (by decide) ?_
          exact lc_best l hlt g C0 i hi6 hL x0 m0 o0 S t fo W9 hOk hI hP hD hS hl kk
        · refine he_top (15) e ?_
          refine lv_tableIn (tgt := 722) hx hb dL_law_40 (by decide) (by decide) rfl (by decide) ?_
          exact lc_offer l hlt g C0 i hi6 hL x0 m0 o0 S t fo W9 hOk hI hP hD hS hl kk
        · refine he_top (16) e ?_
          refine lv_tableIn (tgt := 762) hx hb dL_law_40 (by decide) (by decide) rfl (by decide) ?_
          exact lc_nearest l hlt g C0 i hi6 hL x0 m0 o0 S t fo W9 hOk hI hP hD hS hl kk
        · refine he_top (17) e ?_
          refine lv_tableIn (tgt := 802) hx hb dL_law_40 (by decide) (by decide) rfl (by decide) ?_
          exact lc_stop l hlt g C0 i hi6 hL x0 m0 o0 S t fo W9 hOk hI hP hD hS hl kk
        · refine he_top (18) e ?_
          refine lv_tableIn (tgt := 842) hx hb dL_law_40 (by decide) (by decide) rfl (by decide) ?_
          exact lc_odds l hlt g C0 i hi6 hL x0 m0 o0 S t fo W9 hOk hI hP hD hS hl kk
        · refine he_top (19) e ?_
          refine lv_tableIn (tgt := 879) hx hb dL_law_40 (by decide) (by decide) rfl (by decide) ?_
          exact lc_kind l hlt g C0 i hi6 hL x0 m0 o0 S t fo W9 hOk hI hP hD hS hl kk
        · refine he_top (20) e ?_
          refine lv_tableIn (tgt := 928) hx hb dL_law_40 (by decide) (by decide) rfl (by decide) ?_
          exact lc_seen l hlt g C0 i hi6 hL x0 m0 o0 S t fo W9 hOk hI hP hD hS hl kk
        · refine he_top (21) e ?_
          refine lv_tableIn (tgt := 956) hx hb dL_law_40 (by decide) (by decide) rfl (by decide) ?_
          exact lc_spy l hlt g C0 i hi6 hL x0 m0 o0 S t fo W9 hOk hI hP hD hS hl kk
        · refine he_top (22) e ?_
          refine lv_tableIn (tgt := 1012) hx hb dL_law_40 (by decide) (by decide) rfl (by decide) ?_
          exact lc_believed l hlt g C0 i hi6 hL x0 m0 o0 S t fo W9 hOk hI hP hD hS hl kk
        · refine he_top (23) e ?_
          refine lv_tableIn (tgt := 1040) hx hb dL_law_40 (by decide) (by decide) rfl (by decide) ?_
          exact lc_earnest l hlt g C0 i hi6 hL x0 m0 o0 S t fo W9 hOk hI hP hD hS hl kk
        · refine he_top (24) e ?_
          refine lv_tableIn (tgt := 1092) hx hb dL_law_40 (by decide) (by decide) rfl (by decide) ?_
          exact lc_stands l hlt g C0 i hi6 hL x0 m0 o0 S t fo W9 hOk hI hP hD hS hl kk
        · refine he_top (25) e ?_
          refine lv_tableIn (tgt := 1132) hx hb dL_law_40 (by decide) (by decide) rfl (by decide) ?_
          exact lc_show l hlt g C0 i hi6 hL x0 m0 o0 S t fo W9 hOk hI hP hD hS hl kk
        · refine he_top (26) e ?_
          refine lv_tableIn (tgt := 1172) hx hb dL_law_40 (by decide) (by decide) rfl (by decide) ?_
          exact lc_offers l hlt g C0 i hi6 hL x0 m0 o0 S t fo W9 hOk hI hP hD hS hl kk
        · refine he_top (27) e ?_
          refine lv_tableIn (tgt := 1224) hx hb dL_law_40 (by decide) (by decide) rfl (by decide) ?_
          exact lc_most l hlt g C0 i hi6 hL x0 m0 o0 S t fo W9 hOk hI hP hD hS hl kk
        · refine he_top (28) e ?_
          refine lv_tableIn (tgt := 1237) hx hb dL_law_40 (by decide) (by decide) rfl (by decide) ?_
          exact lc_serves l hlt g C0 i hi6 hL x0 m0 o0 S t fo W9 hOk hI hP hD hS hl kk
        · refine he_top (29) e ?_
          refine lv_tableIn (tgt := 1265) hx hb dL_law_40 (by decide) (by decide) rfl (by decide) ?_
          exact lc_image l hlt g C0 i hi6 hL x0 m0 o0 S t fo W9 hOk hI hP hD hS hl kk
        · refine he_top (30) e ?_
          refine lv_tableIn (tgt := 1278) hx hb dL_law_40 (by decide) (by decide) rfl (by decide) ?_
          exact lc_restore l hlt g C0 i hi6 hL x0 m0 o0 S t fo W9 hOk hI hP hD hS hl kk
        · refine he_top (31) e ?_
          refine lv_tableIn (tgt := 1291) hx hb dL_law_40 (by decide) (by decide) rfl (by decide) ?_
          exact lc_status l hlt g C0 i hi6 hL x0 m0 o0 S t fo W9 hOk hI hP hD hS hl kk
        · refine he_top (32) e ?_
          refine lv_tableIn (tgt := 1316) hx hb dL_law_40 (by decide) (by decide) rfl (by decide) ?_
          exact lc_count l hlt g C0 i hi6 hL x0 m0 o0 S t fo W9 hOk hI hP hD hS hl kk
      · refine lv_tableOut (tgt := 1341) hx hb dL_law_40 (ts_out hno) (by decide) ?_
        refine W.widen (k := 1000 + 4 * (i + 6)) (n := 100000 + 700 * (i + 6)) (by omega) (by omega) ?_
        exact kk S t fo W9 H locs ls hOk hI hP hD hS hl
