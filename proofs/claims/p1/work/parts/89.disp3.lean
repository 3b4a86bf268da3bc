set_option maxHeartbeats 4000000 in
set_option maxRecDepth 100000 in
theorem lw_k15 {p : Program} {e : Env} {s : State} {m : MethodId} {below : List Frame} {meth : Method} {c : Code} (l : Launch) (g : he_G) {b Ln : Nat} {xs : Nat → Int32} (x0 m0 o0 : Nat) (u v : Nat → Nat) (rr : Nat → Nat → Nat) (fo : Nat → Int64) (L : List Nat) (ln : Nat → Nat) (M : Nat → Nat → Int32) (Fs : lw_F rr L ln M) (C0 : lw_C p s m meth c b Ln xs g) (hlt : l.stackTraces = false) (hL : Ln = 6) {H : Heap} {locs : List Loc} {ls : Array Slot} (hP : va_P g.1 vwCl (lw_cells g x0 m0 o0 u v rr fo ++ he_pl g L ln M) H) (hD : va_D (lw_A s) (lw_cells g x0 m0 o0 u v rr fo ++ he_pl g L ln M)) (hS : va_S (lw_A s) s.heap H locs) (hl : lv_has ls 8 [(0, .ref b), (1, .ref x0), (2, .ref m0), (3, .ref o0), (4, .int 0)]) : W p l e room_1 s m #[Value.ref b] below meth c H locs 1000 100000 (lw_Z below #[Value.ref b] s) (F0 m 1086 ls []) := by
  obtain ⟨F1, F2, F3, F4, F5, F6, F7, F8, F9, F10, F11, Z9, Z11, D34⟩ := Fs
  by_cases h1 : he_within (xs 1) 1 60 = 0
  · exact sc_offerX l g x0 (u 0) (u 1) (u 4) (u 9) (u 14) (u 15) (u 27) (u 28) (u 31) (u 35) m0 (v 0) (v 1) (v 2) (v 3) (v 4) (v 5) (v 6) (v 7) (v 8) (v 9) (v 10) (v 11) (v 12) (v 13) (v 14) (v 15) (v 16) (v 17) (v 18) o0 fo  (Or.inl h1) C0 hlt hL (hP.sub [0, 36, 58, 60, 78] rfl) (hD.sub [0, 36, 58, 60, 78] (by decide) rfl) hS hl
  by_cases h2 : he_within (xs 2) 0 3 = 0
  · exact sc_offerX l g x0 (u 0) (u 1) (u 4) (u 9) (u 14) (u 15) (u 27) (u 28) (u 31) (u 35) m0 (v 0) (v 1) (v 2) (v 3) (v 4) (v 5) (v 6) (v 7) (v 8) (v 9) (v 10) (v 11) (v 12) (v 13) (v 14) (v 15) (v 16) (v 17) (v 18) o0 fo  (Or.inr h2) C0 hlt hL (hP.sub [0, 36, 58, 60, 78] rfl) (hD.sub [0, 36, 58, 60, 78] (by decide) rfl) hS hl
  obtain ⟨n, e1, l1, u1⟩ := wi_nat (A := 1) (B := 60) rfl rfl (by decide) (by decide) h1
  obtain ⟨w9, e2, l2, u2⟩ := wi_nat (A := 0) (B := 3) rfl rfl (by decide) (by decide) h2
  rcases (show w9 = 0 ∨ w9 = 1 ∨ w9 = 2 ∨ w9 = 3 by omega) with rfl | rfl | rfl | rfl
  · exact sc_offer0 l g x0 (u 0) (u 1) (u 4) (u 9) (u 14) (u 15) (u 27) (u 28) (u 31) (u 35) (u 5) (u 6) (u 7) (u 8) (u 36) (u 39) (u 42) (u 45) (u 48) (u 51) (u 54) (u 16) (u 19) (u 21) (u 24) (u 17) (u 18) (u 29) (u 30) (u 55) (u 56) m0 (v 0) (v 1) (v 2) (v 3) (v 4) (v 5) (v 6) (v 7) (v 8) (v 9) (v 10) (v 11) (v 12) (v 13) (v 14) (v 15) (v 16) (v 17) (v 18) (rr 3) (rr 4) o0 fo L ln M n e1 (e2.trans (by decide)) l1 u1 F3 F4 (fun h9 => D34 6 6 (by decide) (by decide) h9.symm) C0 hlt hL (he_Psub hP [0, 5, 6, 7, 8, 9, 15, 16, 17, 18, 29, 30, 31, 55, 56, 57, 58, 62, 65, 66, 69, 70, 78] rfl) (he_Dsub hD [0, 5, 6, 7, 8, 9, 15, 16, 17, 18, 29, 30, 31, 55, 56, 57, 58, 62, 65, 66, 69, 70, 78] rfl rfl rfl) hS hl
  · exact sc_offer1 l g x0 (u 0) (u 1) (u 4) (u 9) (u 14) (u 15) (u 27) (u 28) (u 31) (u 35) (u 5) (u 6) (u 7) (u 8) (u 36) (u 39) (u 42) (u 45) (u 48) (u 51) (u 54) (u 16) (u 19) (u 21) (u 24) (u 17) (u 18) (u 29) (u 30) (u 55) (u 56) m0 (v 0) (v 1) (v 2) (v 3) (v 4) (v 5) (v 6) (v 7) (v 8) (v 9) (v 10) (v 11) (v 12) (v 13) (v 14) (v 15) (v 16) (v 17) (v 18) (rr 3) (rr 4) o0 fo L ln M n e1 (e2.trans (by decide)) l1 u1 F3 F4 (fun h9 => D34 6 6 (by decide) (by decide) h9.symm) C0 hlt hL (he_Psub hP [0, 5, 6, 7, 8, 9, 15, 16, 17, 18, 29, 30, 31, 55, 56, 57, 58, 62, 65, 66, 69, 70, 78] rfl) (he_Dsub hD [0, 5, 6, 7, 8, 9, 15, 16, 17, 18, 29, 30, 31, 55, 56, 57, 58, 62, 65, 66, 69, 70, 78] rfl rfl rfl) hS hl
  · exact sc_offer2 l g x0 (u 0) (u 1) (u 4) (u 9) (u 14) (u 15) (u 27) (u 28) (u 31) (u 35) (u 5) (u 6) (u 7) (u 8) (u 36) (u 39) (u 42) (u 45) (u 48) (u 51) (u 54) (u 16) (u 19) (u 21) (u 24) (u 17) (u 18) (u 29) (u 30) (u 55) (u 56) m0 (v 0) (v 1) (v 2) (v 3) (v 4) (v 5) (v 6) (v 7) (v 8) (v 9) (v 10) (v 11) (v 12) (v 13) (v 14) (v 15) (v 16) (v 17) (v 18) (rr 3) (rr 4) o0 fo L ln M n e1 (e2.trans (by decide)) l1 u1 F3 F4 (fun h9 => D34 6 6 (by decide) (by decide) h9.symm) C0 hlt hL (he_Psub hP [0, 5, 6, 7, 8, 9, 15, 16, 17, 18, 29, 30, 31, 55, 56, 57, 58, 62, 65, 66, 69, 70, 78] rfl) (he_Dsub hD [0, 5, 6, 7, 8, 9, 15, 16, 17, 18, 29, 30, 31, 55, 56, 57, 58, 62, 65, 66, 69, 70, 78] rfl rfl rfl) hS hl
  · exact sc_offer3 l g x0 (u 0) (u 1) (u 4) (u 9) (u 14) (u 15) (u 27) (u 28) (u 31) (u 35) (u 5) (u 6) (u 7) (u 8) (u 36) (u 39) (u 42) (u 45) (u 48) (u 51) (u 54) (u 16) (u 19) (u 21) (u 24) (u 17) (u 18) (u 29) (u 30) (u 55) (u 56) m0 (v 0) (v 1) (v 2) (v 3) (v 4) (v 5) (v 6) (v 7) (v 8) (v 9) (v 10) (v 11) (v 12) (v 13) (v 14) (v 15) (v 16) (v 17) (v 18) (rr 3) (rr 4) o0 fo L ln M n e1 (e2.trans (by decide)) l1 u1 F3 F4 (fun h9 => D34 6 6 (by decide) (by decide) h9.symm) C0 hlt hL (he_Psub hP [0, 5, 6, 7, 8, 9, 15, 16, 17, 18, 29, 30, 31, 55, 56, 57, 58, 62, 65, 66, 69, 70, 78] rfl) (he_Dsub hD [0, 5, 6, 7, 8, 9, 15, 16, 17, 18, 29, 30, 31, 55, 56, 57, 58, 62, 65, 66, 69, 70, 78] rfl rfl rfl) hS hl
set_option maxHeartbeats 4000000 in
set_option maxRecDepth 100000 in
theorem lw_k17 {p : Program} {e : Env} {s : State} {m : MethodId} {below : List Frame} {meth : Method} {c : Code} (l : Launch) (g : he_G) {b Ln : Nat} {xs : Nat → Int32} (x0 m0 o0 : Nat) (u v : Nat → Nat) (rr : Nat → Nat → Nat) (fo : Nat → Int64) (L : List Nat) (ln : Nat → Nat) (M : Nat → Nat → Int32) (Fs : lw_F rr L ln M) (C0 : lw_C p s m meth c b Ln xs g) (hlt : l.stackTraces = false) (hL : Ln = 6) {H : Heap} {locs : List Loc} {ls : Array Slot} (hP : va_P g.1 vwCl (lw_cells g x0 m0 o0 u v rr fo ++ he_pl g L ln M) H) (hD : va_D (lw_A s) (lw_cells g x0 m0 o0 u v rr fo ++ he_pl g L ln M)) (hS : va_S (lw_A s) s.heap H locs) (hl : lv_has ls 8 [(0, .ref b), (1, .ref x0), (2, .ref m0), (3, .ref o0), (4, .int 0)]) : W p l e room_1 s m #[Value.ref b] below meth c H locs 1000 100000 (lw_Z below #[Value.ref b] s) (F0 m 1222 ls []) := by
  obtain ⟨F1, F2, F3, F4, F5, F6, F7, F8, F9, F10, F11, Z9, Z11, D34⟩ := Fs
  by_cases h1 : he_within (xs 1) 1 60 = 0
  · exact sc_stopX l g x0 (u 0) (u 1) (u 4) (u 9) (u 14) (u 15) (u 27) (u 28) (u 31) (u 35) m0 (v 0) (v 1) (v 2) (v 3) (v 4) (v 5) (v 6) (v 7) (v 8) (v 9) (v 10) (v 11) (v 12) (v 13) (v 14) (v 15) (v 16) (v 17) (v 18) o0 fo  (Or.inl h1) C0 hlt hL (hP.sub [0, 36, 58, 60, 78] rfl) (hD.sub [0, 36, 58, 60, 78] (by decide) rfl) hS hl
  by_cases h2 : he_within (xs 2) 0 1 = 0
  · exact sc_stopX l g x0 (u 0) (u 1) (u 4) (u 9) (u 14) (u 15) (u 27) (u 28) (u 31) (u 35) m0 (v 0) (v 1) (v 2) (v 3) (v 4) (v 5) (v 6) (v 7) (v 8) (v 9) (v 10) (v 11) (v 12) (v 13) (v 14) (v 15) (v 16) (v 17) (v 18) o0 fo  (Or.inr h2) C0 hlt hL (hP.sub [0, 36, 58, 60, 78] rfl) (hD.sub [0, 36, 58, 60, 78] (by decide) rfl) hS hl
  obtain ⟨n, e1, l1, u1⟩ := wi_nat (A := 1) (B := 60) rfl rfl (by decide) (by decide) h1
  obtain ⟨w9, e2, l2, u2⟩ := wi_nat (A := 0) (B := 1) rfl rfl (by decide) (by decide) h2
  rcases (show w9 = 0 ∨ w9 = 1 by omega) with rfl | rfl
  · exact sc_stop0 l g x0 (u 0) (u 1) (u 4) (u 9) (u 14) (u 15) (u 27) (u 28) (u 31) (u 35) (u 5) (u 6) (u 7) (u 8) (u 16) (u 19) (u 21) (u 24) (u 17) (u 18) (u 29) (u 30) m0 (v 0) (v 1) (v 2) (v 3) (v 4) (v 5) (v 6) (v 7) (v 8) (v 9) (v 10) (v 11) (v 12) (v 13) (v 14) (v 15) (v 16) (v 17) (v 18) o0 fo n e1 (e2.trans (by decide)) l1 u1 (pu_posC n u1) (pu_pos n u1) C0 hlt hL (hP.sub [0, 5, 6, 8, 9, 16, 17, 18, 29, 30, 31, 58, 62, 65, 66, 78] rfl) (hD.sub [0, 5, 6, 8, 9, 16, 17, 18, 29, 30, 31, 58, 62, 65, 66, 78] (by decide) rfl) hS hl
  · exact sc_stop1 l g x0 (u 0) (u 1) (u 4) (u 9) (u 14) (u 15) (u 27) (u 28) (u 31) (u 35) (u 5) (u 6) (u 7) (u 8) (u 16) (u 19) (u 21) (u 24) (u 17) (u 18) (u 29) (u 30) m0 (v 0) (v 1) (v 2) (v 3) (v 4) (v 5) (v 6) (v 7) (v 8) (v 9) (v 10) (v 11) (v 12) (v 13) (v 14) (v 15) (v 16) (v 17) (v 18) o0 fo n e1 (e2.trans (by decide)) l1 u1 (pu_posC n u1) (pu_pos n u1) C0 hlt hL (hP.sub [0, 5, 6, 8, 9, 16, 17, 18, 29, 30, 31, 58, 62, 65, 66, 78] rfl) (hD.sub [0, 5, 6, 8, 9, 16, 17, 18, 29, 30, 31, 58, 62, 65, 66, 78] (by decide) rfl) hS hl
set_option maxHeartbeats 4000000 in
set_option maxRecDepth 100000 in
theorem lw_call {p : Program} {e : Env} {s : State} {m : MethodId} {below : List Frame} {meth : Method} {c : Code} (l : Launch) (g : he_G) {b Ln : Nat} {xs : Nat → Int32} (x0 m0 o0 : Nat) (u v : Nat → Nat) (rr : Nat → Nat → Nat) (fo : Nat → Int64) (L : List Nat) (ln : Nat → Nat) (M : Nat → Nat → Int32) (Fs : lw_F rr L ln M) (C0 : lw_C p s m meth c b Ln xs g) (hlt : l.stackTraces = false) (hL : Ln = 6) {H : Heap} {locs : List Loc} {ls : Array Slot} (hP : va_P g.1 vwCl (lw_cells g x0 m0 o0 u v rr fo ++ he_pl g L ln M) H) (hD : va_D (lw_A s) (lw_cells g x0 m0 o0 u v rr fo ++ he_pl g L ln M)) (hS : va_S (lw_A s) s.heap H locs) (hl : lv_has ls 8 [(0, .ref b), (1, .ref x0), (2, .ref m0), (3, .ref o0), (4, .int 0)]) : W p l e room_1 s m #[Value.ref b] below meth c H locs 1000 100000 (lw_Z below #[Value.ref b] s) (F0 m 33 ls []) := by
  have C1 := C0
  obtain ⟨hx, hb, hr, hml, hown, hts, hX, hbl, hlk, hK, hE, hA, hbA⟩ := C1
  refine lv_aload_n hx hb dL_law_33 rfl (lv_at hl 0 rfl) ?_
  refine lv_iload hx hb dL_law_34 (lv_at hl 4 rfl) ?_
  refine he_sld hx hb hX hbl hbA hS 0 (by decide) (by omega) (by omega) (xs 0) rfl dL_law_36 ?_
  refine lv_bipush (v := 63) hx hb dL_law_37 (by decide) ?_
  refine lv_iand hx hb dL_law_39 ?_
  by_cases t0 : xs 0 &&& 63 = 0
  · refine he_top (0) t0 ?_
    refine lv_tableIn (tgt := 188) hx hb dL_law_40 (by decide) (by decide) rfl (by decide) ?_
    exact lw_k0 l g x0 m0 o0 u v rr fo L ln M Fs C0 hlt hL hP hD hS hl
  by_cases t1 : xs 0 &&& 63 = 1
  · refine he_top (1) t1 ?_
    refine lv_tableIn (tgt := 261) hx hb dL_law_40 (by decide) (by decide) rfl (by decide) ?_
    exact lw_k1 l g x0 m0 o0 u v rr fo L ln M Fs C0 hlt hL hP hD hS hl
  by_cases t2 : xs 0 &&& 63 = 2
  · refine he_top (2) t2 ?_
    refine lv_tableIn (tgt := 317) hx hb dL_law_40 (by decide) (by decide) rfl (by decide) ?_
    exact lw_k2 l g x0 m0 o0 u v rr fo L ln M Fs C0 hlt hL hP hD hS hl
  by_cases t3 : xs 0 &&& 63 = 3
  · refine he_top (3) t3 ?_
    refine lv_tableIn (tgt := 373) hx hb dL_law_40 (by decide) (by decide) rfl (by decide) ?_
    exact lw_k3 l g x0 m0 o0 u v rr fo L ln M Fs C0 hlt hL hP hD hS hl
  by_cases t4 : xs 0 &&& 63 = 4
  · refine he_top (4) t4 ?_
    refine lv_tableIn (tgt := 386) hx hb dL_law_40 (by decide) (by decide) rfl (by decide) ?_
    exact lw_k4 l g x0 m0 o0 u v rr fo L ln M Fs C0 hlt hL hP hD hS hl
  by_cases t5 : xs 0 &&& 63 = 5
  · refine he_top (5) t5 ?_
    refine lv_tableIn (tgt := 442) hx hb dL_law_40 (by decide) (by decide) rfl (by decide) ?_
    exact lw_k5 l g x0 m0 o0 u v rr fo L ln M Fs C0 hlt hL hP hD hS hl
  by_cases t6 : xs 0 &&& 63 = 6
  · refine he_top (6) t6 ?_
    refine lv_tableIn (tgt := 510) hx hb dL_law_40 (by decide) (by decide) rfl (by decide) ?_
    exact lw_k6 l g x0 m0 o0 u v rr fo L ln M Fs C0 hlt hL hP hD hS hl
  by_cases t7 : xs 0 &&& 63 = 7
  · refine he_top (7) t7 ?_
    refine lv_tableIn (tgt := 578) hx hb dL_law_40 (by decide) (by decide) rfl (by decide) ?_
    exact lw_k7 l g x0 m0 o0 u v rr fo L ln M Fs C0 hlt hL hP hD hS hl
  by_cases t8 : xs 0 &&& 63 = 8
  · refine he_top (8) t8 ?_
    refine lv_tableIn (tgt := 646) hx hb dL_law_40 (by decide) (by decide) rfl (by decide) ?_
    exact lw_k8 l g x0 m0 o0 u v rr fo L ln M Fs C0 hlt hL hP hD hS hl
  by_cases t9 : xs 0 &&& 63 = 9
  · refine he_top (9) t9 ?_
    refine lv_tableIn (tgt := 702) hx hb dL_law_40 (by decide) (by decide) rfl (by decide) ?_
    exact lw_k9 l g x0 m0 o0 u v rr fo L ln M Fs C0 hlt hL hP hD hS hl
  by_cases t10 : xs 0 &&& 63 = 10
  · refine he_top (10) t10 ?_
    refine lv_tableIn (tgt := 758) hx hb dL_law_40 (by decide) (by decide) rfl (by decide) ?_
    exact lw_k10 l g x0 m0 o0 u v rr fo L ln M Fs C0 hlt hL hP hD hS hl
  by_cases t11 : xs 0 &&& 63 = 11
  · refine he_top (11) t11 ?_
    refine lv_tableIn (tgt := 814) hx hb dL_law_40 (by decide) (by decide) rfl (by decide) ?_
    exact lw_k11 l g x0 m0 o0 u v rr fo L ln M Fs C0 hlt hL hP hD hS hl
  by_cases t12 : xs 0 &&& 63 = 12
  · refine he_top (12) t12 ?_
    refine lv_tableIn (tgt := 870) hx hb dL_law_40 (by decide) (by decide) rfl (by decide) ?_
    exact lw_k12 l g x0 m0 o0 u v rr fo L ln M Fs C0 hlt hL hP hD hS hl
  by_cases t13 : xs 0 &&& 63 = 13
  · refine he_top (13) t13 ?_
    refine lv_tableIn (tgt := 938) hx hb dL_law_40 (by decide) (by decide) rfl (by decide) ?_
    exact lw_k13 l g x0 m0 o0 u v rr fo L ln M Fs C0 hlt hL hP hD hS hl
  by_cases t14 : xs 0 &&& 63 = 14
  · refine he_top (14) t14 ?_
    refine lv_tableIn (tgt := 1018) hx hb dL_law_40 (by decide) (by decide) rfl (by decide) ?_
    exact lw_k14 l g x0 m0 o0 u v rr fo L ln M Fs C0 hlt hL hP hD hS hl
  by_cases t15 : xs 0 &&& 63 = 15
  · refine he_top (15) t15 ?_
    refine lv_tableIn (tgt := 1086) hx hb dL_law_40 (by decide) (by decide) rfl (by decide) ?_
    exact lw_k15 l g x0 m0 o0 u v rr fo L ln M Fs C0 hlt hL hP hD hS hl
  by_cases t16 : xs 0 &&& 63 = 16
  · refine he_top (16) t16 ?_
    refine lv_tableIn (tgt := 1154) hx hb dL_law_40 (by decide) (by decide) rfl (by decide) ?_
    exact lw_k16 l g x0 m0 o0 u v rr fo L ln M Fs C0 hlt hL hP hD hS hl
  by_cases t17 : xs 0 &&& 63 = 17
  · refine he_top (17) t17 ?_
    refine lv_tableIn (tgt := 1222) hx hb dL_law_40 (by decide) (by decide) rfl (by decide) ?_
    exact lw_k17 l g x0 m0 o0 u v rr fo L ln M Fs C0 hlt hL hP hD hS hl
  by_cases t18 : xs 0 &&& 63 = 18
  · refine he_top (18) t18 ?_
    refine lv_tableIn (tgt := 1290) hx hb dL_law_40 (by decide) (by decide) rfl (by decide) ?_
    exact lw_k18 l g x0 m0 o0 u v rr fo L ln M Fs C0 hlt hL hP hD hS hl
  by_cases t19 : xs 0 &&& 63 = 19
  · refine he_top (19) t19 ?_
    refine lv_tableIn (tgt := 1338) hx hb dL_law_40 (by decide) (by decide) rfl (by decide) ?_
    exact lw_k19 l g x0 m0 o0 u v rr fo L ln M Fs C0 hlt hL hP hD hS hl
  by_cases t20 : xs 0 &&& 63 = 20
  · refine he_top (20) t20 ?_
    refine lv_tableIn (tgt := 1398) hx hb dL_law_40 (by decide) (by decide) rfl (by decide) ?_
    exact lw_k20 l g x0 m0 o0 u v rr fo L ln M Fs C0 hlt hL hP hD hS hl
  by_cases t21 : xs 0 &&& 63 = 21
  · refine he_top (21) t21 ?_
    refine lv_tableIn (tgt := 1454) hx hb dL_law_40 (by decide) (by decide) rfl (by decide) ?_
    exact lw_k21 l g x0 m0 o0 u v rr fo L ln M Fs C0 hlt hL hP hD hS hl
  by_cases t22 : xs 0 &&& 63 = 22
  · refine he_top (22) t22 ?_
    refine lv_tableIn (tgt := 1538) hx hb dL_law_40 (by decide) (by decide) rfl (by decide) ?_
    exact lw_k22 l g x0 m0 o0 u v rr fo L ln M Fs C0 hlt hL hP hD hS hl
  by_cases t23 : xs 0 &&& 63 = 23
  · refine he_top (23) t23 ?_
    refine lv_tableIn (tgt := 1593) hx hb dL_law_40 (by decide) (by decide) rfl (by decide) ?_
    exact lw_k23 l g x0 m0 o0 u v rr fo L ln M Fs C0 hlt hL hP hD hS hl
  by_cases t24 : xs 0 &&& 63 = 24
  · refine he_top (24) t24 ?_
    refine lv_tableIn (tgt := 1673) hx hb dL_law_40 (by decide) (by decide) rfl (by decide) ?_
    exact lw_k24 l g x0 m0 o0 u v rr fo L ln M Fs C0 hlt hL hP hD hS hl
  by_cases t25 : xs 0 &&& 63 = 25
  · refine he_top (25) t25 ?_
    refine lv_tableIn (tgt := 1741) hx hb dL_law_40 (by decide) (by decide) rfl (by decide) ?_
    exact lw_k25 l g x0 m0 o0 u v rr fo L ln M Fs C0 hlt hL hP hD hS hl
  by_cases t26 : xs 0 &&& 63 = 26
  · refine he_top (26) t26 ?_
    refine lv_tableIn (tgt := 1809) hx hb dL_law_40 (by decide) (by decide) rfl (by decide) ?_
    exact lw_k26 l g x0 m0 o0 u v rr fo L ln M Fs C0 hlt hL hP hD hS hl
  by_cases t27 : xs 0 &&& 63 = 27
  · refine he_top (27) t27 ?_
    refine lv_tableIn (tgt := 1889) hx hb dL_law_40 (by decide) (by decide) rfl (by decide) ?_
    exact lw_k27 l g x0 m0 o0 u v rr fo L ln M Fs C0 hlt hL hP hD hS hl
  by_cases t28 : xs 0 &&& 63 = 28
  · refine he_top (28) t28 ?_
    refine lv_tableIn (tgt := 1902) hx hb dL_law_40 (by decide) (by decide) rfl (by decide) ?_
    exact lw_k28 l g x0 m0 o0 u v rr fo L ln M Fs C0 hlt hL hP hD hS hl
  by_cases t29 : xs 0 &&& 63 = 29
  · refine he_top (29) t29 ?_
    refine lv_tableIn (tgt := 1958) hx hb dL_law_40 (by decide) (by decide) rfl (by decide) ?_
    exact lw_k29 l g x0 m0 o0 u v rr fo L ln M Fs C0 hlt hL hP hD hS hl
  by_cases t30 : xs 0 &&& 63 = 30
  · refine he_top (30) t30 ?_
    refine lv_tableIn (tgt := 1971) hx hb dL_law_40 (by decide) (by decide) rfl (by decide) ?_
    exact lw_k30 l g x0 m0 o0 u v rr fo L ln M Fs C0 hlt hL hP hD hS hl
  by_cases t31 : xs 0 &&& 63 = 31
  · refine he_top (31) t31 ?_
    refine lv_tableIn (tgt := 1984) hx hb dL_law_40 (by decide) (by decide) rfl (by decide) ?_
    exact lw_k31 l g x0 m0 o0 u v rr fo L ln M Fs C0 hlt hL hP hD hS hl
  by_cases t32 : xs 0 &&& 63 = 32
  · refine he_top (32) t32 ?_
    refine lv_tableIn (tgt := 2009) hx hb dL_law_40 (by decide) (by decide) rfl (by decide) ?_
    exact lw_k32 l g x0 m0 o0 u v rr fo L ln M Fs C0 hlt hL hP hD hS hl
  refine lv_tableOut (tgt := 2034) hx hb dL_law_40 (tb_out (fun k hk => ?_)) (by decide) ?_
  · match k, hk with
    | 0, _ => exact t0
    | 1, _ => exact t1
    | 2, _ => exact t2
    | 3, _ => exact t3
    | 4, _ => exact t4
    | 5, _ => exact t5
    | 6, _ => exact t6
    | 7, _ => exact t7
    | 8, _ => exact t8
    | 9, _ => exact t9
    | 10, _ => exact t10
    | 11, _ => exact t11
    | 12, _ => exact t12
    | 13, _ => exact t13
    | 14, _ => exact t14
    | 15, _ => exact t15
    | 16, _ => exact t16
    | 17, _ => exact t17
    | 18, _ => exact t18
    | 19, _ => exact t19
    | 20, _ => exact t20
    | 21, _ => exact t21
    | 22, _ => exact t22
    | 23, _ => exact t23
    | 24, _ => exact t24
    | 25, _ => exact t25
    | 26, _ => exact t26
    | 27, _ => exact t27
    | 28, _ => exact t28
    | 29, _ => exact t29
    | 30, _ => exact t30
    | 31, _ => exact t31
    | 32, _ => exact t32
    | k + 33, h => exact absurd h (by omega)
  · exact lw_e2034 l C0 hL hS (lv_sub hl [0, 4] rfl) (Nat.le_of_ble_eq_true rfl) (Nat.le_of_ble_eq_true rfl)
