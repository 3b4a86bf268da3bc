section
theorem iwoX0_init {k : Nat} {w : Cond} (h : woX0_init[k]? = some w) : w ∈ wsX0_init := List.mem_cons_of_mem _ (List.mem_append_left _ (List.mem_of_getElem? h))
theorem innX0_init_X0 : ∀ w ∈ wsX00, w ∈ wsX0_init := fun _ h => List.mem_cons_of_mem _ (List.mem_append_right _ (h))
theorem iwoX0_keep {k : Nat} {w : Cond} (h : woX0_keep[k]? = some w) : w ∈ wsX0_keep := List.mem_cons_of_mem _ (List.mem_append_left _ (List.mem_of_getElem? h))
theorem innX0_keep_X4 : ∀ w ∈ wsX40, w ∈ wsX0_keep := fun _ h => List.mem_cons_of_mem _ (List.mem_append_right _ (List.mem_append_left _ h))
theorem innX0_keep_X0 : ∀ w ∈ wsX00, w ∈ wsX0_keep := fun _ h => List.mem_cons_of_mem _ (List.mem_append_right _ (List.mem_append_right _ (List.mem_append_left _ h)))
theorem iwoX0_lead {k : Nat} {w : Cond} (h : woX0_lead[k]? = some w) : w ∈ wsX0_lead := List.mem_cons_of_mem _ (List.mem_append_left _ (List.mem_of_getElem? h))
theorem innX0_lead_X4 : ∀ w ∈ wsX40, w ∈ wsX0_lead := fun _ h => List.mem_cons_of_mem _ (List.mem_append_right _ (List.mem_append_left _ h))
theorem innX0_lead_X0 : ∀ w ∈ wsX00, w ∈ wsX0_lead := fun _ h => List.mem_cons_of_mem _ (List.mem_append_right _ (List.mem_append_right _ (List.mem_append_left _ h)))
theorem iwoX0_giveBack {k : Nat} {w : Cond} (h : woX0_giveBack[k]? = some w) : w ∈ wsX0_giveBack := List.mem_cons_of_mem _ (List.mem_append_left _ (List.mem_of_getElem? h))
theorem innX0_giveBack_X0 : ∀ w ∈ wsX00, w ∈ wsX0_giveBack := fun _ h => List.mem_cons_of_mem _ (List.mem_append_right _ (List.mem_append_left _ h))
theorem innX0_giveBack_X4 : ∀ w ∈ wsX40, w ∈ wsX0_giveBack := fun _ h => List.mem_cons_of_mem _ (List.mem_append_right _ (List.mem_append_right _ (List.mem_append_left _ h)))
theorem iwoX0_shotAt {k : Nat} {w : Cond} (h : woX0_shotAt[k]? = some w) : w ∈ wsX0_shotAt := List.mem_cons_of_mem _ (List.mem_append_left _ (List.mem_of_getElem? h))
theorem innX0_shotAt_X0 : ∀ w ∈ wsX00, w ∈ wsX0_shotAt := fun _ h => List.mem_cons_of_mem _ (List.mem_append_right _ (h))
theorem iwoX0_take {k : Nat} {w : Cond} (h : woX0_take[k]? = some w) : w ∈ wsX0_take := List.mem_cons_of_mem _ (List.mem_append_left _ (List.mem_of_getElem? h))
theorem innX0_take_X0 : ∀ w ∈ wsX00, w ∈ wsX0_take := fun _ h => List.mem_cons_of_mem _ (List.mem_append_right _ (List.mem_append_left _ h))
theorem iwoX1_init {k : Nat} {w : Cond} (h : woX1_init[k]? = some w) : w ∈ wsX1_init := List.mem_cons_of_mem _ (List.mem_append_left _ (List.mem_of_getElem? h))
theorem innX1_init_X1 : ∀ w ∈ wsX10, w ∈ wsX1_init := fun _ h => List.mem_cons_of_mem _ (List.mem_append_right _ (h))
theorem iwoX1_prepare {k : Nat} {w : Cond} (h : woX1_prepare[k]? = some w) : w ∈ wsX1_prepare := List.mem_cons_of_mem _ (List.mem_append_left _ (List.mem_of_getElem? h))
theorem innX1_prepare_X6 : ∀ w ∈ wsX60, w ∈ wsX1_prepare := fun _ h => List.mem_cons_of_mem _ (List.mem_append_right _ (List.mem_append_left _ h))
theorem innX1_prepare_X1 : ∀ w ∈ wsX10, w ∈ wsX1_prepare := fun _ h => List.mem_cons_of_mem _ (List.mem_append_right _ (List.mem_append_right _ (h)))
theorem iwoX1_all {k : Nat} {w : Cond} (h : woX1_all[k]? = some w) : w ∈ wsX1_all := List.mem_cons_of_mem _ (List.mem_append_left _ (List.mem_of_getElem? h))
theorem innX1_all_X1 : ∀ w ∈ wsX10, w ∈ wsX1_all := fun _ h => List.mem_cons_of_mem _ (List.mem_append_right _ (h))
theorem iwoX1_place {k : Nat} {w : Cond} (h : woX1_place[k]? = some w) : w ∈ wsX1_place := List.mem_cons_of_mem _ (List.mem_append_left _ (List.mem_of_getElem? h))
theorem innX1_place_X1 : ∀ w ∈ wsX10, w ∈ wsX1_place := fun _ h => List.mem_cons_of_mem _ (List.mem_append_right _ (h))
theorem iwoX1_menToFell {k : Nat} {w : Cond} (h : woX1_menToFell[k]? = some w) : w ∈ wsX1_menToFell := List.mem_cons_of_mem _ (List.mem_append_left _ (List.mem_of_getElem? h))
theorem innX1_menToFell_X1 : ∀ w ∈ wsX10, w ∈ wsX1_menToFell := fun _ h => List.mem_cons_of_mem _ (List.mem_append_right _ (h))
theorem iwoX1_worthOf {k : Nat} {w : Cond} (h : woX1_worthOf[k]? = some w) : w ∈ wsX1_worthOf := List.mem_cons_of_mem _ (List.mem_append_left _ (List.mem_of_getElem? h))
theorem innX1_worthOf_X1 : ∀ w ∈ wsX10, w ∈ wsX1_worthOf := fun _ h => List.mem_cons_of_mem _ (List.mem_append_right _ (h))
theorem iwoX1_mostFelled {k : Nat} {w : Cond} (h : woX1_mostFelled[k]? = some w) : w ∈ wsX1_mostFelled := List.mem_cons_of_mem _ (List.mem_append_left _ (List.mem_of_getElem? h))
theorem iwoX1_digits {k : Nat} {w : Cond} (h : woX1_digits[k]? = some w) : w ∈ wsX1_digits := List.mem_cons_of_mem _ (List.mem_append_left _ (List.mem_of_getElem? h))
theorem innX1_digits_X1 : ∀ w ∈ wsX10, w ∈ wsX1_digits := fun _ h => List.mem_cons_of_mem _ (List.mem_append_right _ (h))
theorem iwoX1_safe {k : Nat} {w : Cond} (h : woX1_safe[k]? = some w) : w ∈ wsX1_safe := List.mem_cons_of_mem _ (List.mem_append_left _ (List.mem_of_getElem? h))
theorem innX1_safe_X1 : ∀ w ∈ wsX10, w ∈ wsX1_safe := fun _ h => List.mem_cons_of_mem _ (List.mem_append_right _ (List.mem_append_left _ h))
theorem iwoX1_menToHold {k : Nat} {w : Cond} (h : woX1_menToHold[k]? = some w) : w ∈ wsX1_menToHold := List.mem_cons_of_mem _ (List.mem_append_left _ (List.mem_of_getElem? h))
theorem innX1_menToHold_X1 : ∀ w ∈ wsX10, w ∈ wsX1_menToHold := fun _ h => List.mem_cons_of_mem _ (List.mem_append_right _ (h))
theorem iwoX1_leastFelled {k : Nat} {w : Cond} (h : woX1_leastFelled[k]? = some w) : w ∈ wsX1_leastFelled := List.mem_cons_of_mem _ (List.mem_append_left _ (List.mem_of_getElem? h))
theorem iwoX1_sure {k : Nat} {w : Cond} (h : woX1_sure[k]? = some w) : w ∈ wsX1_sure := List.mem_cons_of_mem _ (List.mem_append_left _ (List.mem_of_getElem? h))
theorem iwoX2_init {k : Nat} {w : Cond} (h : woX2_init[k]? = some w) : w ∈ wsX2_init := List.mem_cons_of_mem _ (List.mem_append_left _ (List.mem_of_getElem? h))
theorem innX2_init_X2 : ∀ w ∈ wsX20, w ∈ wsX2_init := fun _ h => List.mem_cons_of_mem _ (List.mem_append_right _ (h))
theorem iwoX2_forget {k : Nat} {w : Cond} (h : woX2_forget[k]? = some w) : w ∈ wsX2_forget := List.mem_cons_of_mem _ (List.mem_append_left _ (List.mem_of_getElem? h))
theorem innX2_forget_X2 : ∀ w ∈ wsX20, w ∈ wsX2_forget := fun _ h => List.mem_cons_of_mem _ (List.mem_append_right _ (h))
theorem iwoX2_start {k : Nat} {w : Cond} (h : woX2_start[k]? = some w) : w ∈ wsX2_start := List.mem_cons_of_mem _ (List.mem_append_left _ (List.mem_of_getElem? h))
theorem innX2_start_X2 : ∀ w ∈ wsX20, w ∈ wsX2_start := fun _ h => List.mem_cons_of_mem _ (List.mem_append_right _ (List.mem_append_left _ h))
theorem iwoX2_add {k : Nat} {w : Cond} (h : woX2_add[k]? = some w) : w ∈ wsX2_add := List.mem_cons_of_mem _ (List.mem_append_left _ (List.mem_of_getElem? h))
theorem innX2_add_X2 : ∀ w ∈ wsX20, w ∈ wsX2_add := fun _ h => List.mem_cons_of_mem _ (List.mem_append_right _ (h))
theorem iwoX2_leastTerm {k : Nat} {w : Cond} (h : woX2_leastTerm[k]? = some w) : w ∈ wsX2_leastTerm := List.mem_cons_of_mem _ (List.mem_append_left _ (List.mem_of_getElem? h))
theorem innX2_leastTerm_X2 : ∀ w ∈ wsX20, w ∈ wsX2_leastTerm := fun _ h => List.mem_cons_of_mem _ (List.mem_append_right _ (h))
theorem iwoX2_take {k : Nat} {w : Cond} (h : woX2_take[k]? = some w) : w ∈ wsX2_take := List.mem_cons_of_mem _ (List.mem_append_left _ (List.mem_of_getElem? h))
theorem innX2_take_X2 : ∀ w ∈ wsX20, w ∈ wsX2_take := fun _ h => List.mem_cons_of_mem _ (List.mem_append_right _ (h))
theorem iwoX3_init {k : Nat} {w : Cond} (h : woX3_init[k]? = some w) : w ∈ wsX3_init := List.mem_cons_of_mem _ (List.mem_append_left _ (List.mem_of_getElem? h))
theorem innX3_init_X3 : ∀ w ∈ wsX30, w ∈ wsX3_init := fun _ h => List.mem_cons_of_mem _ (List.mem_append_right _ (h))
theorem iwoX3_clear {k : Nat} {w : Cond} (h : woX3_clear[k]? = some w) : w ∈ wsX3_clear := List.mem_cons_of_mem _ (List.mem_append_left _ (List.mem_of_getElem? h))
theorem innX3_clear_X3 : ∀ w ∈ wsX30, w ∈ wsX3_clear := fun _ h => List.mem_cons_of_mem _ (List.mem_append_right _ (List.mem_append_left _ h))
theorem iwoX3_bid {k : Nat} {w : Cond} (h : woX3_bid[k]? = some w) : w ∈ wsX3_bid := List.mem_cons_of_mem _ (List.mem_append_left _ (List.mem_of_getElem? h))
theorem innX3_bid_X3 : ∀ w ∈ wsX30, w ∈ wsX3_bid := fun _ h => List.mem_cons_of_mem _ (List.mem_append_right _ (h))
theorem iwoX3_through {k : Nat} {w : Cond} (h : woX3_through[k]? = some w) : w ∈ wsX3_through := List.mem_cons_of_mem _ (List.mem_append_left _ (List.mem_of_getElem? h))
theorem innX3_through_X3 : ∀ w ∈ wsX30, w ∈ wsX3_through := fun _ h => List.mem_cons_of_mem _ (List.mem_append_right _ (h))
theorem iwoX3_mostFrom {k : Nat} {w : Cond} (h : woX3_mostFrom[k]? = some w) : w ∈ wsX3_mostFrom := List.mem_cons_of_mem _ (List.mem_append_left _ (List.mem_of_getElem? h))
theorem iwoX3_mostCoin {k : Nat} {w : Cond} (h : woX3_mostCoin[k]? = some w) : w ∈ wsX3_mostCoin := List.mem_cons_of_mem _ (List.mem_append_left _ (List.mem_of_getElem? h))
theorem innX3_mostCoin_X3 : ∀ w ∈ wsX30, w ∈ wsX3_mostCoin := fun _ h => List.mem_cons_of_mem _ (List.mem_append_right _ (List.mem_append_left _ h))
theorem iwoX3_firstWay {k : Nat} {w : Cond} (h : woX3_firstWay[k]? = some w) : w ∈ wsX3_firstWay := List.mem_cons_of_mem _ (List.mem_append_left _ (List.mem_of_getElem? h))
theorem innX3_firstWay_X3 : ∀ w ∈ wsX30, w ∈ wsX3_firstWay := fun _ h => List.mem_cons_of_mem _ (List.mem_append_right _ (List.mem_append_left _ h))
theorem iwoX3_take {k : Nat} {w : Cond} (h : woX3_take[k]? = some w) : w ∈ wsX3_take := List.mem_cons_of_mem _ (List.mem_append_left _ (List.mem_of_getElem? h))
theorem innX3_take_X3 : ∀ w ∈ wsX30, w ∈ wsX3_take := fun _ h => List.mem_cons_of_mem _ (List.mem_append_right _ (h))
theorem iwoX4_init {k : Nat} {w : Cond} (h : woX4_init[k]? = some w) : w ∈ wsX4_init := List.mem_cons_of_mem _ (List.mem_append_left _ (List.mem_of_getElem? h))
theorem innX4_init_X4 : ∀ w ∈ wsX40, w ∈ wsX4_init := fun _ h => List.mem_cons_of_mem _ (List.mem_append_right _ (h))
theorem iwoX4_begin {k : Nat} {w : Cond} (h : woX4_begin[k]? = some w) : w ∈ wsX4_begin := List.mem_cons_of_mem _ (List.mem_append_left _ (List.mem_of_getElem? h))
theorem innX4_begin_X4 : ∀ w ∈ wsX40, w ∈ wsX4_begin := fun _ h => List.mem_cons_of_mem _ (List.mem_append_right _ (List.mem_append_left _ h))
theorem innX4_begin_X6 : ∀ w ∈ wsX60, w ∈ wsX4_begin := fun _ h => List.mem_cons_of_mem _ (List.mem_append_right _ (List.mem_append_right _ (List.mem_append_left _ h)))
theorem iwoX4_take {k : Nat} {w : Cond} (h : woX4_take[k]? = some w) : w ∈ wsX4_take := List.mem_cons_of_mem _ (List.mem_append_left _ (List.mem_of_getElem? h))
theorem innX4_take_X4 : ∀ w ∈ wsX40, w ∈ wsX4_take := fun _ h => List.mem_cons_of_mem _ (List.mem_append_right _ (h))
theorem iwoX4_pledge {k : Nat} {w : Cond} (h : woX4_pledge[k]? = some w) : w ∈ wsX4_pledge := List.mem_cons_of_mem _ (List.mem_append_left _ (List.mem_of_getElem? h))
theorem innX4_pledge_X4 : ∀ w ∈ wsX40, w ∈ wsX4_pledge := fun _ h => List.mem_cons_of_mem _ (List.mem_append_right _ (h))
theorem iwoX4_move {k : Nat} {w : Cond} (h : woX4_move[k]? = some w) : w ∈ wsX4_move := List.mem_cons_of_mem _ (List.mem_append_left _ (List.mem_of_getElem? h))
theorem innX4_move_X4 : ∀ w ∈ wsX40, w ∈ wsX4_move := fun _ h => List.mem_cons_of_mem _ (List.mem_append_right _ (h))
theorem iwoX5_winterPay {k : Nat} {w : Cond} (h : woX5_winterPay[k]? = some w) : w ∈ wsX5_winterPay := List.mem_cons_of_mem _ (List.mem_append_left _ (List.mem_of_getElem? h))
theorem innX5_winterPay_X5 : ∀ w ∈ wsX50, w ∈ wsX5_winterPay := fun _ h => List.mem_cons_of_mem _ (List.mem_append_right _ (h))
theorem iwoX5_payIn {k : Nat} {w : Cond} (h : woX5_payIn[k]? = some w) : w ∈ wsX5_payIn := List.mem_cons_of_mem _ (List.mem_append_left _ (List.mem_of_getElem? h))
theorem innX5_payIn_X5 : ∀ w ∈ wsX50, w ∈ wsX5_payIn := fun _ h => List.mem_cons_of_mem _ (List.mem_append_right _ (List.mem_append_left _ h))
theorem iwoX4_isPaid {k : Nat} {w : Cond} (h : woX4_isPaid[k]? = some w) : w ∈ wsX4_isPaid := List.mem_cons_of_mem _ (List.mem_append_left _ (List.mem_of_getElem? h))
theorem innX4_isPaid_X4 : ∀ w ∈ wsX40, w ∈ wsX4_isPaid := fun _ h => List.mem_cons_of_mem _ (List.mem_append_right _ (List.mem_append_left _ h))
theorem iwoX5_wallDue {k : Nat} {w : Cond} (h : woX5_wallDue[k]? = some w) : w ∈ wsX5_wallDue := List.mem_cons_of_mem _ (List.mem_append_left _ (List.mem_of_getElem? h))
theorem innX5_wallDue_X5 : ∀ w ∈ wsX50, w ∈ wsX5_wallDue := fun _ h => List.mem_cons_of_mem _ (List.mem_append_right _ (List.mem_append_left _ h))
theorem iwoX4_weakest {k : Nat} {w : Cond} (h : woX4_weakest[k]? = some w) : w ∈ wsX4_weakest := List.mem_cons_of_mem _ (List.mem_append_left _ (List.mem_of_getElem? h))
theorem innX4_weakest_X4 : ∀ w ∈ wsX40, w ∈ wsX4_weakest := fun _ h => List.mem_cons_of_mem _ (List.mem_append_right _ (h))
theorem iwoX4_frighten {k : Nat} {w : Cond} (h : woX4_frighten[k]? = some w) : w ∈ wsX4_frighten := List.mem_cons_of_mem _ (List.mem_append_left _ (List.mem_of_getElem? h))
theorem innX4_frighten_X4 : ∀ w ∈ wsX40, w ∈ wsX4_frighten := fun _ h => List.mem_cons_of_mem _ (List.mem_append_right _ (h))
theorem iwoX4_breach {k : Nat} {w : Cond} (h : woX4_breach[k]? = some w) : w ∈ wsX4_breach := List.mem_cons_of_mem _ (List.mem_append_left _ (List.mem_of_getElem? h))
theorem innX4_breach_X4 : ∀ w ∈ wsX40, w ∈ wsX4_breach := fun _ h => List.mem_cons_of_mem _ (List.mem_append_right _ (List.mem_append_left _ h))
theorem innX4_breach_X6 : ∀ w ∈ wsX60, w ∈ wsX4_breach := fun _ h => List.mem_cons_of_mem _ (List.mem_append_right _ (List.mem_append_right _ (List.mem_append_left _ h)))
theorem innX4_breach_X5 : ∀ w ∈ wsX50, w ∈ wsX4_breach := fun _ h => List.mem_cons_of_mem _ (List.mem_append_right _ (List.mem_append_right _ (List.mem_append_right _ (List.mem_append_left _ h))))
theorem iwoX4_shoot {k : Nat} {w : Cond} (h : woX4_shoot[k]? = some w) : w ∈ wsX4_shoot := List.mem_cons_of_mem _ (List.mem_append_left _ (List.mem_of_getElem? h))
theorem innX4_shoot_X4 : ∀ w ∈ wsX40, w ∈ wsX4_shoot := fun _ h => List.mem_cons_of_mem _ (List.mem_append_right _ (List.mem_append_left _ h))
theorem innX4_shoot_X6 : ∀ w ∈ wsX60, w ∈ wsX4_shoot := fun _ h => List.mem_cons_of_mem _ (List.mem_append_right _ (List.mem_append_right _ (List.mem_append_left _ h)))
theorem innX4_shoot_X5 : ∀ w ∈ wsX50, w ∈ wsX4_shoot := fun _ h => List.mem_cons_of_mem _ (List.mem_append_right _ (List.mem_append_right _ (List.mem_append_right _ (List.mem_append_left _ h))))
theorem iwoX6_fearAt {k : Nat} {w : Cond} (h : woX6_fearAt[k]? = some w) : w ∈ wsX6_fearAt := List.mem_cons_of_mem _ (List.mem_append_left _ (List.mem_of_getElem? h))
theorem innX6_fearAt_X6 : ∀ w ∈ wsX60, w ∈ wsX6_fearAt := fun _ h => List.mem_cons_of_mem _ (List.mem_append_right _ (List.mem_append_left _ h))
theorem iwoX4_mend {k : Nat} {w : Cond} (h : woX4_mend[k]? = some w) : w ∈ wsX4_mend := List.mem_cons_of_mem _ (List.mem_append_left _ (List.mem_of_getElem? h))
theorem innX4_mend_X6 : ∀ w ∈ wsX60, w ∈ wsX4_mend := fun _ h => List.mem_cons_of_mem _ (List.mem_append_right _ (List.mem_append_left _ h))
theorem innX4_mend_X4 : ∀ w ∈ wsX40, w ∈ wsX4_mend := fun _ h => List.mem_cons_of_mem _ (List.mem_append_right _ (List.mem_append_right _ (List.mem_append_left _ h)))
theorem iwoX4_desert {k : Nat} {w : Cond} (h : woX4_desert[k]? = some w) : w ∈ wsX4_desert := List.mem_cons_of_mem _ (List.mem_append_left _ (List.mem_of_getElem? h))
theorem innX4_desert_X4 : ∀ w ∈ wsX40, w ∈ wsX4_desert := fun _ h => List.mem_cons_of_mem _ (List.mem_append_right _ (h))
theorem iwoX4_pass {k : Nat} {w : Cond} (h : woX4_pass[k]? = some w) : w ∈ wsX4_pass := List.mem_cons_of_mem _ (List.mem_append_left _ (List.mem_of_getElem? h))
theorem innX4_pass_X4 : ∀ w ∈ wsX40, w ∈ wsX4_pass := fun _ h => List.mem_cons_of_mem _ (List.mem_append_right _ (List.mem_append_left _ h))
theorem innX4_pass_X6 : ∀ w ∈ wsX60, w ∈ wsX4_pass := fun _ h => List.mem_cons_of_mem _ (List.mem_append_right _ (List.mem_append_right _ (List.mem_append_left _ h)))
theorem innX4_pass_X5 : ∀ w ∈ wsX50, w ∈ wsX4_pass := fun _ h => List.mem_cons_of_mem _ (List.mem_append_right _ (List.mem_append_right _ (List.mem_append_right _ (List.mem_append_left _ h))))
theorem iwoX9_init {k : Nat} {w : Cond} (h : woX9_init[k]? = some w) : w ∈ wsX9_init := List.mem_cons_of_mem _ ((List.mem_of_getElem? h))
theorem iwoX5_init {k : Nat} {w : Cond} (h : woX5_init[k]? = some w) : w ∈ wsX5_init := List.mem_cons_of_mem _ (List.mem_append_left _ (List.mem_of_getElem? h))
theorem innX5_init_X5 : ∀ w ∈ wsX50, w ∈ wsX5_init := fun _ h => List.mem_cons_of_mem _ (List.mem_append_right _ (List.mem_append_left _ h))
theorem iwoX5_clear {k : Nat} {w : Cond} (h : woX5_clear[k]? = some w) : w ∈ wsX5_clear := List.mem_cons_of_mem _ (List.mem_append_left _ (List.mem_of_getElem? h))
theorem innX5_clear_X5 : ∀ w ∈ wsX50, w ∈ wsX5_clear := fun _ h => List.mem_cons_of_mem _ (List.mem_append_right _ (List.mem_append_left _ h))
theorem iwoX5_propose {k : Nat} {w : Cond} (h : woX5_propose[k]? = some w) : w ∈ wsX5_propose := List.mem_cons_of_mem _ (List.mem_append_left _ (List.mem_of_getElem? h))
theorem innX5_propose_X5 : ∀ w ∈ wsX50, w ∈ wsX5_propose := fun _ h => List.mem_cons_of_mem _ (List.mem_append_right _ (List.mem_append_left _ h))
theorem iwoX5_high {k : Nat} {w : Cond} (h : woX5_high[k]? = some w) : w ∈ wsX5_high := List.mem_cons_of_mem _ (List.mem_append_left _ (List.mem_of_getElem? h))
theorem innX5_high_X5 : ∀ w ∈ wsX50, w ∈ wsX5_high := fun _ h => List.mem_cons_of_mem _ (List.mem_append_right _ (List.mem_append_left _ h))
theorem iwoX5_store {k : Nat} {w : Cond} (h : woX5_store[k]? = some w) : w ∈ wsX5_store := List.mem_cons_of_mem _ (List.mem_append_left _ (List.mem_of_getElem? h))
theorem innX5_store_X5 : ∀ w ∈ wsX50, w ∈ wsX5_store := fun _ h => List.mem_cons_of_mem _ (List.mem_append_right _ (List.mem_append_left _ h))
theorem iwoX5_breachesTold {k : Nat} {w : Cond} (h : woX5_breachesTold[k]? = some w) : w ∈ wsX5_breachesTold := List.mem_cons_of_mem _ (List.mem_append_left _ (List.mem_of_getElem? h))
theorem innX5_breachesTold_X5 : ∀ w ∈ wsX50, w ∈ wsX5_breachesTold := fun _ h => List.mem_cons_of_mem _ (List.mem_append_right _ (h))
theorem iwoX5_answer {k : Nat} {w : Cond} (h : woX5_answer[k]? = some w) : w ∈ wsX5_answer := List.mem_cons_of_mem _ (List.mem_append_left _ (List.mem_of_getElem? h))
theorem innX5_answer_X5 : ∀ w ∈ wsX50, w ∈ wsX5_answer := fun _ h => List.mem_cons_of_mem _ (List.mem_append_right _ (List.mem_append_left _ h))
theorem iwoX6_clear {k : Nat} {w : Cond} (h : woX6_clear[k]? = some w) : w ∈ wsX6_clear := List.mem_cons_of_mem _ (List.mem_append_left _ (List.mem_of_getElem? h))
theorem innX6_clear_X6 : ∀ w ∈ wsX60, w ∈ wsX6_clear := fun _ h => List.mem_cons_of_mem _ (List.mem_append_right _ (h))
theorem iwoX6_init {k : Nat} {w : Cond} (h : woX6_init[k]? = some w) : w ∈ wsX6_init := List.mem_cons_of_mem _ (List.mem_append_left _ (List.mem_of_getElem? h))
theorem innX6_init_X6 : ∀ w ∈ wsX60, w ∈ wsX6_init := fun _ h => List.mem_cons_of_mem _ (List.mem_append_right _ (List.mem_append_left _ h))
theorem iwoX6_isFull {k : Nat} {w : Cond} (h : woX6_isFull[k]? = some w) : w ∈ wsX6_isFull := List.mem_cons_of_mem _ (List.mem_append_left _ (List.mem_of_getElem? h))
theorem innX6_isFull_X6 : ∀ w ∈ wsX60, w ∈ wsX6_isFull := fun _ h => List.mem_cons_of_mem _ (List.mem_append_right _ (h))
theorem iwoX6_numbers {k : Nat} {w : Cond} (h : woX6_numbers[k]? = some w) : w ∈ wsX6_numbers := List.mem_cons_of_mem _ (List.mem_append_left _ (List.mem_of_getElem? h))
theorem iwoX6_high {k : Nat} {w : Cond} (h : woX6_high[k]? = some w) : w ∈ wsX6_high := List.mem_cons_of_mem _ (List.mem_append_left _ (List.mem_of_getElem? h))
theorem iwoX6_addWall {k : Nat} {w : Cond} (h : woX6_addWall[k]? = some w) : w ∈ wsX6_addWall := List.mem_cons_of_mem _ (List.mem_append_left _ (List.mem_of_getElem? h))
theorem innX6_addWall_X6 : ∀ w ∈ wsX60, w ∈ wsX6_addWall := fun _ h => List.mem_cons_of_mem _ (List.mem_append_right _ (h))
theorem iwoX6_store {k : Nat} {w : Cond} (h : woX6_store[k]? = some w) : w ∈ wsX6_store := List.mem_cons_of_mem _ (List.mem_append_left _ (List.mem_of_getElem? h))
theorem innX6_store_X6 : ∀ w ∈ wsX60, w ∈ wsX6_store := fun _ h => List.mem_cons_of_mem _ (List.mem_append_right _ (List.mem_append_left _ h))
theorem iwoX6_wanted {k : Nat} {w : Cond} (h : woX6_wanted[k]? = some w) : w ∈ wsX6_wanted := List.mem_cons_of_mem _ (List.mem_append_left _ (List.mem_of_getElem? h))
theorem innX6_wanted_X6 : ∀ w ∈ wsX60, w ∈ wsX6_wanted := fun _ h => List.mem_cons_of_mem _ (List.mem_append_right _ (h))
theorem iwoX7_init {k : Nat} {w : Cond} (h : woX7_init[k]? = some w) : w ∈ wsX7_init := List.mem_cons_of_mem _ (List.mem_append_left _ (List.mem_of_getElem? h))
theorem innX7_init_X7 : ∀ w ∈ wsX70, w ∈ wsX7_init := fun _ h => List.mem_cons_of_mem _ (List.mem_append_right _ (h))
theorem iwoX7_skipBlanks {k : Nat} {w : Cond} (h : woX7_skipBlanks[k]? = some w) : w ∈ wsX7_skipBlanks := List.mem_cons_of_mem _ (List.mem_append_left _ (List.mem_of_getElem? h))
theorem innX7_skipBlanks_X7 : ∀ w ∈ wsX70, w ∈ wsX7_skipBlanks := fun _ h => List.mem_cons_of_mem _ (List.mem_append_right _ (h))
theorem iwoX7_skipLetters {k : Nat} {w : Cond} (h : woX7_skipLetters[k]? = some w) : w ∈ wsX7_skipLetters := List.mem_cons_of_mem _ (List.mem_append_left _ (List.mem_of_getElem? h))
theorem innX7_skipLetters_X7 : ∀ w ∈ wsX70, w ∈ wsX7_skipLetters := fun _ h => List.mem_cons_of_mem _ (List.mem_append_right _ (h))
theorem iwoJ0_coder_7d493 {k : Nat} {w : Cond} (h : woJ0_coder_7d493[k]? = some w) : w ∈ wsJ0_coder_7d493 := List.mem_cons_of_mem _ ((List.mem_of_getElem? h))
theorem iwoJ0_length_8abf5 {k : Nat} {w : Cond} (h : woJ0_length_8abf5[k]? = some w) : w ∈ wsJ0_length_8abf5 := List.mem_cons_of_mem _ (List.mem_append_left _ (List.mem_of_getElem? h))
theorem iwoJ0_isLatin1_aae02 {k : Nat} {w : Cond} (h : woJ0_isLatin1_aae02[k]? = some w) : w ∈ wsJ0_isLatin1_aae02 := List.mem_cons_of_mem _ ((List.mem_of_getElem? h))
theorem iwoJ0_checkIndex_df160 {k : Nat} {w : Cond} (h : woJ0_checkIndex_df160[k]? = some w) : w ∈ wsJ0_checkIndex_df160 := List.mem_cons_of_mem _ (List.mem_append_left _ (List.mem_of_getElem? h))
theorem iwoJ0_charAt_5068e {k : Nat} {w : Cond} (h : woJ0_charAt_5068e[k]? = some w) : w ∈ wsJ0_charAt_5068e := List.mem_cons_of_mem _ (List.mem_append_left _ (List.mem_of_getElem? h))
theorem iwoX7_isSame {k : Nat} {w : Cond} (h : woX7_isSame[k]? = some w) : w ∈ wsX7_isSame := List.mem_cons_of_mem _ (List.mem_append_left _ (List.mem_of_getElem? h))
theorem innX7_isSame_X7 : ∀ w ∈ wsX70, w ∈ wsX7_isSame := fun _ h => List.mem_cons_of_mem _ (List.mem_append_right _ (List.mem_append_left _ h))
theorem iwoX7_fail {k : Nat} {w : Cond} (h : woX7_fail[k]? = some w) : w ∈ wsX7_fail := List.mem_cons_of_mem _ (List.mem_append_left _ (List.mem_of_getElem? h))
theorem innX7_fail_X7 : ∀ w ∈ wsX70, w ∈ wsX7_fail := fun _ h => List.mem_cons_of_mem _ (List.mem_append_right _ (h))
theorem iwoX7_readNumber {k : Nat} {w : Cond} (h : woX7_readNumber[k]? = some w) : w ∈ wsX7_readNumber := List.mem_cons_of_mem _ (List.mem_append_left _ (List.mem_of_getElem? h))
theorem innX7_readNumber_X7 : ∀ w ∈ wsX70, w ∈ wsX7_readNumber := fun _ h => List.mem_cons_of_mem _ (List.mem_append_right _ (List.mem_append_left _ h))
theorem iwoX7_readPart {k : Nat} {w : Cond} (h : woX7_readPart[k]? = some w) : w ∈ wsX7_readPart := List.mem_cons_of_mem _ (List.mem_append_left _ (List.mem_of_getElem? h))
theorem innX7_readPart_X7 : ∀ w ∈ wsX70, w ∈ wsX7_readPart := fun _ h => List.mem_cons_of_mem _ (List.mem_append_right _ (List.mem_append_left _ h))
theorem iwoX7_read {k : Nat} {w : Cond} (h : woX7_read[k]? = some w) : w ∈ wsX7_read := List.mem_cons_of_mem _ (List.mem_append_left _ (List.mem_of_getElem? h))
theorem innX7_read_X7 : ∀ w ∈ wsX70, w ∈ wsX7_read := fun _ h => List.mem_cons_of_mem _ (List.mem_append_right _ (List.mem_append_left _ h))
theorem iwoX8_init {k : Nat} {w : Cond} (h : woX8_init[k]? = some w) : w ∈ wsX8_init := List.mem_cons_of_mem _ (List.mem_append_left _ (List.mem_of_getElem? h))
theorem innX8_init_X4 : ∀ w ∈ wsX40, w ∈ wsX8_init := fun _ h => List.mem_cons_of_mem _ (List.mem_append_right _ (List.mem_append_left _ h))
theorem innX8_init_X8 : ∀ w ∈ wsX80, w ∈ wsX8_init := fun _ h => List.mem_cons_of_mem _ (List.mem_append_right _ (List.mem_append_right _ (List.mem_append_left _ h)))
theorem innX8_init_X0 : ∀ w ∈ wsX00, w ∈ wsX8_init := fun _ h => List.mem_cons_of_mem _ (List.mem_append_right _ (List.mem_append_right _ (List.mem_append_right _ (List.mem_append_left _ h))))
theorem innX8_init_X2 : ∀ w ∈ wsX20, w ∈ wsX8_init := fun _ h => List.mem_cons_of_mem _ (List.mem_append_right _ (List.mem_append_right _ (List.mem_append_right _ (List.mem_append_right _ (List.mem_append_left _ h)))))
theorem innX8_init_X3 : ∀ w ∈ wsX30, w ∈ wsX8_init := fun _ h => List.mem_cons_of_mem _ (List.mem_append_right _ (List.mem_append_right _ (List.mem_append_right _ (List.mem_append_right _ (List.mem_append_right _ (List.mem_append_left _ h))))))
theorem iwoX8_begin {k : Nat} {w : Cond} (h : woX8_begin[k]? = some w) : w ∈ wsX8_begin := List.mem_cons_of_mem _ (List.mem_append_left _ (List.mem_of_getElem? h))
theorem innX8_begin_X8 : ∀ w ∈ wsX80, w ∈ wsX8_begin := fun _ h => List.mem_cons_of_mem _ (List.mem_append_right _ (List.mem_append_left _ h))
theorem iwoX8_take {k : Nat} {w : Cond} (h : woX8_take[k]? = some w) : w ∈ wsX8_take := List.mem_cons_of_mem _ (List.mem_append_left _ (List.mem_of_getElem? h))
theorem innX8_take_X8 : ∀ w ∈ wsX80, w ∈ wsX8_take := fun _ h => List.mem_cons_of_mem _ (List.mem_append_right _ (List.mem_append_left _ h))
theorem innX8_take_X4 : ∀ w ∈ wsX40, w ∈ wsX8_take := fun _ h => List.mem_cons_of_mem _ (List.mem_append_right _ (List.mem_append_right _ (List.mem_append_left _ h)))
theorem iwoX10_init {k : Nat} {w : Cond} (h : woX10_init[k]? = some w) : w ∈ wsX10_init := List.mem_cons_of_mem _ (List.mem_append_left _ (List.mem_of_getElem? h))
theorem innX10_init_X10 : ∀ w ∈ wsX100, w ∈ wsX10_init := fun _ h => List.mem_cons_of_mem _ (List.mem_append_right _ (List.mem_append_left _ h))
theorem innX10_init_X7 : ∀ w ∈ wsX70, w ∈ wsX10_init := fun _ h => List.mem_cons_of_mem _ (List.mem_append_right _ (List.mem_append_right _ (List.mem_append_left _ h)))
theorem innX10_init_X6 : ∀ w ∈ wsX60, w ∈ wsX10_init := fun _ h => List.mem_cons_of_mem _ (List.mem_append_right _ (List.mem_append_right _ (List.mem_append_right _ (List.mem_append_left _ h))))
theorem innX10_init_X8 : ∀ w ∈ wsX80, w ∈ wsX10_init := fun _ h => List.mem_cons_of_mem _ (List.mem_append_right _ (List.mem_append_right _ (List.mem_append_right _ (List.mem_append_right _ (List.mem_append_left _ h)))))
theorem innX10_init_X4 : ∀ w ∈ wsX40, w ∈ wsX10_init := fun _ h => List.mem_cons_of_mem _ (List.mem_append_right _ (List.mem_append_right _ (List.mem_append_right _ (List.mem_append_right _ (List.mem_append_right _ (List.mem_append_left _ h))))))
theorem innX10_init_X1 : ∀ w ∈ wsX10, w ∈ wsX10_init := fun _ h => List.mem_cons_of_mem _ (List.mem_append_right _ (List.mem_append_right _ (List.mem_append_right _ (List.mem_append_right _ (List.mem_append_right _ (List.mem_append_right _ (List.mem_append_left _ h)))))))
theorem innX10_init_X5 : ∀ w ∈ wsX50, w ∈ wsX10_init := fun _ h => List.mem_cons_of_mem _ (List.mem_append_right _ (List.mem_append_right _ (List.mem_append_right _ (List.mem_append_right _ (List.mem_append_right _ (List.mem_append_right _ (List.mem_append_right _ (List.mem_append_left _ h))))))))
theorem iwoX10_putOnTape {k : Nat} {w : Cond} (h : woX10_putOnTape[k]? = some w) : w ∈ wsX10_putOnTape := List.mem_cons_of_mem _ (List.mem_append_left _ (List.mem_of_getElem? h))
theorem innX10_putOnTape_X10 : ∀ w ∈ wsX100, w ∈ wsX10_putOnTape := fun _ h => List.mem_cons_of_mem _ (List.mem_append_right _ (h))
theorem iwoX10_feed {k : Nat} {w : Cond} (h : woX10_feed[k]? = some w) : w ∈ wsX10_feed := List.mem_cons_of_mem _ (List.mem_append_left _ (List.mem_of_getElem? h))
theorem innX10_feed_X10 : ∀ w ∈ wsX100, w ∈ wsX10_feed := fun _ h => List.mem_cons_of_mem _ (List.mem_append_right _ (List.mem_append_left _ h))
theorem iwoX10_demand {k : Nat} {w : Cond} (h : woX10_demand[k]? = some w) : w ∈ wsX10_demand := List.mem_cons_of_mem _ (List.mem_append_left _ (List.mem_of_getElem? h))
theorem innX10_demand_X10 : ∀ w ∈ wsX100, w ∈ wsX10_demand := fun _ h => List.mem_cons_of_mem _ (List.mem_append_right _ (List.mem_append_left _ h))
theorem iwoX10_siege {k : Nat} {w : Cond} (h : woX10_siege[k]? = some w) : w ∈ wsX10_siege := List.mem_cons_of_mem _ (List.mem_append_left _ (List.mem_of_getElem? h))
theorem innX10_siege_X10 : ∀ w ∈ wsX100, w ∈ wsX10_siege := fun _ h => List.mem_cons_of_mem _ (List.mem_append_right _ (List.mem_append_left _ h))
theorem innX10_siege_X6 : ∀ w ∈ wsX60, w ∈ wsX10_siege := fun _ h => List.mem_cons_of_mem _ (List.mem_append_right _ (List.mem_append_right _ (List.mem_append_left _ h)))
theorem iwoX10_contract {k : Nat} {w : Cond} (h : woX10_contract[k]? = some w) : w ∈ wsX10_contract := List.mem_cons_of_mem _ (List.mem_append_left _ (List.mem_of_getElem? h))
theorem innX10_contract_X10 : ∀ w ∈ wsX100, w ∈ wsX10_contract := fun _ h => List.mem_cons_of_mem _ (List.mem_append_right _ (List.mem_append_left _ h))
theorem innX10_contract_X7 : ∀ w ∈ wsX70, w ∈ wsX10_contract := fun _ h => List.mem_cons_of_mem _ (List.mem_append_right _ (List.mem_append_right _ (List.mem_append_left _ h)))
theorem innX10_contract_X6 : ∀ w ∈ wsX60, w ∈ wsX10_contract := fun _ h => List.mem_cons_of_mem _ (List.mem_append_right _ (List.mem_append_right _ (List.mem_append_right _ (List.mem_append_left _ h))))
theorem iwoX10_fault {k : Nat} {w : Cond} (h : woX10_fault[k]? = some w) : w ∈ wsX10_fault := List.mem_cons_of_mem _ (List.mem_append_left _ (List.mem_of_getElem? h))
theorem innX10_fault_X10 : ∀ w ∈ wsX100, w ∈ wsX10_fault := fun _ h => List.mem_cons_of_mem _ (List.mem_append_right _ (List.mem_append_left _ h))
theorem innX10_fault_X7 : ∀ w ∈ wsX70, w ∈ wsX10_fault := fun _ h => List.mem_cons_of_mem _ (List.mem_append_right _ (List.mem_append_right _ (h)))
theorem iwoX10_told {k : Nat} {w : Cond} (h : woX10_told[k]? = some w) : w ∈ wsX10_told := List.mem_cons_of_mem _ (List.mem_append_left _ (List.mem_of_getElem? h))
theorem innX10_told_X10 : ∀ w ∈ wsX100, w ∈ wsX10_told := fun _ h => List.mem_cons_of_mem _ (List.mem_append_right _ (List.mem_append_left _ h))
theorem innX10_told_X8 : ∀ w ∈ wsX80, w ∈ wsX10_told := fun _ h => List.mem_cons_of_mem _ (List.mem_append_right _ (List.mem_append_right _ (List.mem_append_left _ h)))
theorem innX10_told_X4 : ∀ w ∈ wsX40, w ∈ wsX10_told := fun _ h => List.mem_cons_of_mem _ (List.mem_append_right _ (List.mem_append_right _ (List.mem_append_right _ (List.mem_append_left _ h))))
theorem innX10_told_X6 : ∀ w ∈ wsX60, w ∈ wsX10_told := fun _ h => List.mem_cons_of_mem _ (List.mem_append_right _ (List.mem_append_right _ (List.mem_append_right _ (List.mem_append_right _ (List.mem_append_left _ h)))))
theorem iwoX10_demandWall {k : Nat} {w : Cond} (h : woX10_demandWall[k]? = some w) : w ∈ wsX10_demandWall := List.mem_cons_of_mem _ (List.mem_append_left _ (List.mem_of_getElem? h))
theorem innX10_demandWall_X10 : ∀ w ∈ wsX100, w ∈ wsX10_demandWall := fun _ h => List.mem_cons_of_mem _ (List.mem_append_right _ (List.mem_append_left _ h))
theorem innX10_demandWall_X6 : ∀ w ∈ wsX60, w ∈ wsX10_demandWall := fun _ h => List.mem_cons_of_mem _ (List.mem_append_right _ (List.mem_append_right _ (List.mem_append_left _ h)))
theorem iwoX10_wall {k : Nat} {w : Cond} (h : woX10_wall[k]? = some w) : w ∈ wsX10_wall := List.mem_cons_of_mem _ (List.mem_append_left _ (List.mem_of_getElem? h))
theorem innX10_wall_X10 : ∀ w ∈ wsX100, w ∈ wsX10_wall := fun _ h => List.mem_cons_of_mem _ (List.mem_append_right _ (List.mem_append_left _ h))
theorem innX10_wall_X6 : ∀ w ∈ wsX60, w ∈ wsX10_wall := fun _ h => List.mem_cons_of_mem _ (List.mem_append_right _ (List.mem_append_right _ (List.mem_append_left _ h)))
theorem innX10_wall_X8 : ∀ w ∈ wsX80, w ∈ wsX10_wall := fun _ h => List.mem_cons_of_mem _ (List.mem_append_right _ (List.mem_append_right _ (List.mem_append_right _ (List.mem_append_left _ h))))
theorem innX10_wall_X4 : ∀ w ∈ wsX40, w ∈ wsX10_wall := fun _ h => List.mem_cons_of_mem _ (List.mem_append_right _ (List.mem_append_right _ (List.mem_append_right _ (List.mem_append_right _ (List.mem_append_left _ h)))))
theorem iwoX10_demandContract {k : Nat} {w : Cond} (h : woX10_demandContract[k]? = some w) : w ∈ wsX10_demandContract := List.mem_cons_of_mem _ (List.mem_append_left _ (List.mem_of_getElem? h))
theorem innX10_demandContract_X10 : ∀ w ∈ wsX100, w ∈ wsX10_demandContract := fun _ h => List.mem_cons_of_mem _ (List.mem_append_right _ (List.mem_append_left _ h))
theorem iwoX10_rule {k : Nat} {w : Cond} (h : woX10_rule[k]? = some w) : w ∈ wsX10_rule := List.mem_cons_of_mem _ (List.mem_append_left _ (List.mem_of_getElem? h))
theorem innX10_rule_X10 : ∀ w ∈ wsX100, w ∈ wsX10_rule := fun _ h => List.mem_cons_of_mem _ (List.mem_append_right _ (List.mem_append_left _ h))
theorem iwoX10_wants {k : Nat} {w : Cond} (h : woX10_wants[k]? = some w) : w ∈ wsX10_wants := List.mem_cons_of_mem _ (List.mem_append_left _ (List.mem_of_getElem? h))
theorem innX10_wants_X10 : ∀ w ∈ wsX100, w ∈ wsX10_wants := fun _ h => List.mem_cons_of_mem _ (List.mem_append_right _ (List.mem_append_left _ h))
theorem iwoX10_sign {k : Nat} {w : Cond} (h : woX10_sign[k]? = some w) : w ∈ wsX10_sign := List.mem_cons_of_mem _ (List.mem_append_left _ (List.mem_of_getElem? h))
theorem innX10_sign_X10 : ∀ w ∈ wsX100, w ∈ wsX10_sign := fun _ h => List.mem_cons_of_mem _ (List.mem_append_right _ (List.mem_append_left _ h))
theorem innX10_sign_X8 : ∀ w ∈ wsX80, w ∈ wsX10_sign := fun _ h => List.mem_cons_of_mem _ (List.mem_append_right _ (List.mem_append_right _ (List.mem_append_left _ h)))
theorem innX10_sign_X4 : ∀ w ∈ wsX40, w ∈ wsX10_sign := fun _ h => List.mem_cons_of_mem _ (List.mem_append_right _ (List.mem_append_right _ (List.mem_append_right _ (List.mem_append_left _ h))))
theorem iwoX10_inForce {k : Nat} {w : Cond} (h : woX10_inForce[k]? = some w) : w ∈ wsX10_inForce := List.mem_cons_of_mem _ (List.mem_append_left _ (List.mem_of_getElem? h))
theorem innX10_inForce_X4 : ∀ w ∈ wsX40, w ∈ wsX10_inForce := fun _ h => List.mem_cons_of_mem _ (List.mem_append_right _ (List.mem_append_left _ h))
theorem innX10_inForce_X10 : ∀ w ∈ wsX100, w ∈ wsX10_inForce := fun _ h => List.mem_cons_of_mem _ (List.mem_append_right _ (List.mem_append_right _ (List.mem_append_left _ h)))
theorem iwoX10_months {k : Nat} {w : Cond} (h : woX10_months[k]? = some w) : w ∈ wsX10_months := List.mem_cons_of_mem _ (List.mem_append_left _ (List.mem_of_getElem? h))
theorem innX10_months_X10 : ∀ w ∈ wsX100, w ∈ wsX10_months := fun _ h => List.mem_cons_of_mem _ (List.mem_append_right _ (List.mem_append_left _ h))
theorem innX10_months_X8 : ∀ w ∈ wsX80, w ∈ wsX10_months := fun _ h => List.mem_cons_of_mem _ (List.mem_append_right _ (List.mem_append_right _ (List.mem_append_left _ h)))
theorem innX10_months_X4 : ∀ w ∈ wsX40, w ∈ wsX10_months := fun _ h => List.mem_cons_of_mem _ (List.mem_append_right _ (List.mem_append_right _ (List.mem_append_right _ (List.mem_append_left _ h))))
theorem iwoX10_undo {k : Nat} {w : Cond} (h : woX10_undo[k]? = some w) : w ∈ wsX10_undo := List.mem_cons_of_mem _ (List.mem_append_left _ (List.mem_of_getElem? h))
theorem innX10_undo_X10 : ∀ w ∈ wsX100, w ∈ wsX10_undo := fun _ h => List.mem_cons_of_mem _ (List.mem_append_right _ (List.mem_append_left _ h))
theorem innX10_undo_X8 : ∀ w ∈ wsX80, w ∈ wsX10_undo := fun _ h => List.mem_cons_of_mem _ (List.mem_append_right _ (List.mem_append_right _ (List.mem_append_left _ h)))
theorem innX10_undo_X4 : ∀ w ∈ wsX40, w ∈ wsX10_undo := fun _ h => List.mem_cons_of_mem _ (List.mem_append_right _ (List.mem_append_right _ (List.mem_append_right _ (List.mem_append_left _ h))))
theorem iwoX10_sums {k : Nat} {w : Cond} (h : woX10_sums[k]? = some w) : w ∈ wsX10_sums := List.mem_cons_of_mem _ (List.mem_append_left _ (List.mem_of_getElem? h))
theorem innX10_sums_X10 : ∀ w ∈ wsX100, w ∈ wsX10_sums := fun _ h => List.mem_cons_of_mem _ (List.mem_append_right _ (List.mem_append_left _ h))
theorem innX10_sums_X8 : ∀ w ∈ wsX80, w ∈ wsX10_sums := fun _ h => List.mem_cons_of_mem _ (List.mem_append_right _ (List.mem_append_right _ (List.mem_append_left _ h)))
theorem innX10_sums_X4 : ∀ w ∈ wsX40, w ∈ wsX10_sums := fun _ h => List.mem_cons_of_mem _ (List.mem_append_right _ (List.mem_append_right _ (List.mem_append_right _ (List.mem_append_left _ h))))
theorem iwoX10_corks {k : Nat} {w : Cond} (h : woX10_corks[k]? = some w) : w ∈ wsX10_corks := List.mem_cons_of_mem _ (List.mem_append_left _ (List.mem_of_getElem? h))
theorem innX10_corks_X10 : ∀ w ∈ wsX100, w ∈ wsX10_corks := fun _ h => List.mem_cons_of_mem _ (List.mem_append_right _ (List.mem_append_left _ h))
theorem innX10_corks_X8 : ∀ w ∈ wsX80, w ∈ wsX10_corks := fun _ h => List.mem_cons_of_mem _ (List.mem_append_right _ (List.mem_append_right _ (List.mem_append_left _ h)))
theorem innX10_corks_X4 : ∀ w ∈ wsX40, w ∈ wsX10_corks := fun _ h => List.mem_cons_of_mem _ (List.mem_append_right _ (List.mem_append_right _ (List.mem_append_right _ (List.mem_append_left _ h))))
theorem iwoX10_passTried {k : Nat} {w : Cond} (h : woX10_passTried[k]? = some w) : w ∈ wsX10_passTried := List.mem_cons_of_mem _ (List.mem_append_left _ (List.mem_of_getElem? h))
theorem innX10_passTried_X10 : ∀ w ∈ wsX100, w ∈ wsX10_passTried := fun _ h => List.mem_cons_of_mem _ (List.mem_append_right _ (List.mem_append_left _ h))
theorem innX10_passTried_X4 : ∀ w ∈ wsX40, w ∈ wsX10_passTried := fun _ h => List.mem_cons_of_mem _ (List.mem_append_right _ (List.mem_append_right _ (List.mem_append_left _ h)))
theorem iwoX10_trySigned {k : Nat} {w : Cond} (h : woX10_trySigned[k]? = some w) : w ∈ wsX10_trySigned := List.mem_cons_of_mem _ (List.mem_append_left _ (List.mem_of_getElem? h))
theorem innX10_trySigned_X10 : ∀ w ∈ wsX100, w ∈ wsX10_trySigned := fun _ h => List.mem_cons_of_mem _ (List.mem_append_right _ (List.mem_append_left _ h))
theorem innX10_trySigned_X8 : ∀ w ∈ wsX80, w ∈ wsX10_trySigned := fun _ h => List.mem_cons_of_mem _ (List.mem_append_right _ (List.mem_append_right _ (List.mem_append_left _ h)))
theorem innX10_trySigned_X4 : ∀ w ∈ wsX40, w ∈ wsX10_trySigned := fun _ h => List.mem_cons_of_mem _ (List.mem_append_right _ (List.mem_append_right _ (List.mem_append_right _ (List.mem_append_left _ h))))
theorem iwoX10_would {k : Nat} {w : Cond} (h : woX10_would[k]? = some w) : w ∈ wsX10_would := List.mem_cons_of_mem _ (List.mem_append_left _ (List.mem_of_getElem? h))
theorem innX10_would_X10 : ∀ w ∈ wsX100, w ∈ wsX10_would := fun _ h => List.mem_cons_of_mem _ (List.mem_append_right _ (List.mem_append_left _ h))
theorem innX10_would_X4 : ∀ w ∈ wsX40, w ∈ wsX10_would := fun _ h => List.mem_cons_of_mem _ (List.mem_append_right _ (List.mem_append_right _ (List.mem_append_left _ h)))
theorem iwoX10_best {k : Nat} {w : Cond} (h : woX10_best[k]? = some w) : w ∈ wsX10_best := List.mem_cons_of_mem _ (List.mem_append_left _ (List.mem_of_getElem? h))
theorem innX10_best_X10 : ∀ w ∈ wsX100, w ∈ wsX10_best := fun _ h => List.mem_cons_of_mem _ (List.mem_append_right _ (List.mem_append_left _ h))
theorem iwoX10_offer {k : Nat} {w : Cond} (h : woX10_offer[k]? = some w) : w ∈ wsX10_offer := List.mem_cons_of_mem _ (List.mem_append_left _ (List.mem_of_getElem? h))
theorem innX10_offer_X10 : ∀ w ∈ wsX100, w ∈ wsX10_offer := fun _ h => List.mem_cons_of_mem _ (List.mem_append_right _ (List.mem_append_left _ h))
theorem iwoX10_nearest {k : Nat} {w : Cond} (h : woX10_nearest[k]? = some w) : w ∈ wsX10_nearest := List.mem_cons_of_mem _ (List.mem_append_left _ (List.mem_of_getElem? h))
theorem innX10_nearest_X10 : ∀ w ∈ wsX100, w ∈ wsX10_nearest := fun _ h => List.mem_cons_of_mem _ (List.mem_append_right _ (List.mem_append_left _ h))
theorem iwoX10_stop {k : Nat} {w : Cond} (h : woX10_stop[k]? = some w) : w ∈ wsX10_stop := List.mem_cons_of_mem _ (List.mem_append_left _ (List.mem_of_getElem? h))
theorem innX10_stop_X10 : ∀ w ∈ wsX100, w ∈ wsX10_stop := fun _ h => List.mem_cons_of_mem _ (List.mem_append_right _ (List.mem_append_left _ h))
theorem innX10_stop_X8 : ∀ w ∈ wsX80, w ∈ wsX10_stop := fun _ h => List.mem_cons_of_mem _ (List.mem_append_right _ (List.mem_append_right _ (List.mem_append_left _ h)))
theorem innX10_stop_X4 : ∀ w ∈ wsX40, w ∈ wsX10_stop := fun _ h => List.mem_cons_of_mem _ (List.mem_append_right _ (List.mem_append_right _ (List.mem_append_right _ (List.mem_append_left _ h))))
theorem iwoX10_odds {k : Nat} {w : Cond} (h : woX10_odds[k]? = some w) : w ∈ wsX10_odds := List.mem_cons_of_mem _ (List.mem_append_left _ (List.mem_of_getElem? h))
theorem innX10_odds_X10 : ∀ w ∈ wsX100, w ∈ wsX10_odds := fun _ h => List.mem_cons_of_mem _ (List.mem_append_right _ (List.mem_append_left _ h))
theorem innX10_odds_X8 : ∀ w ∈ wsX80, w ∈ wsX10_odds := fun _ h => List.mem_cons_of_mem _ (List.mem_append_right _ (List.mem_append_right _ (List.mem_append_left _ h)))
theorem iwoX10_kind {k : Nat} {w : Cond} (h : woX10_kind[k]? = some w) : w ∈ wsX10_kind := List.mem_cons_of_mem _ (List.mem_append_left _ (List.mem_of_getElem? h))
theorem innX10_kind_X10 : ∀ w ∈ wsX100, w ∈ wsX10_kind := fun _ h => List.mem_cons_of_mem _ (List.mem_append_right _ (List.mem_append_left _ h))
theorem innX10_kind_X8 : ∀ w ∈ wsX80, w ∈ wsX10_kind := fun _ h => List.mem_cons_of_mem _ (List.mem_append_right _ (List.mem_append_right _ (List.mem_append_left _ h)))
theorem innX10_kind_X2 : ∀ w ∈ wsX20, w ∈ wsX10_kind := fun _ h => List.mem_cons_of_mem _ (List.mem_append_right _ (List.mem_append_right _ (List.mem_append_right _ (List.mem_append_left _ h))))
theorem iwoX10_seen {k : Nat} {w : Cond} (h : woX10_seen[k]? = some w) : w ∈ wsX10_seen := List.mem_cons_of_mem _ (List.mem_append_left _ (List.mem_of_getElem? h))
theorem innX10_seen_X10 : ∀ w ∈ wsX100, w ∈ wsX10_seen := fun _ h => List.mem_cons_of_mem _ (List.mem_append_right _ (List.mem_append_left _ h))
theorem innX10_seen_X8 : ∀ w ∈ wsX80, w ∈ wsX10_seen := fun _ h => List.mem_cons_of_mem _ (List.mem_append_right _ (List.mem_append_right _ (List.mem_append_left _ h)))
theorem innX10_seen_X2 : ∀ w ∈ wsX20, w ∈ wsX10_seen := fun _ h => List.mem_cons_of_mem _ (List.mem_append_right _ (List.mem_append_right _ (List.mem_append_right _ (List.mem_append_left _ h))))
theorem iwoX10_spy {k : Nat} {w : Cond} (h : woX10_spy[k]? = some w) : w ∈ wsX10_spy := List.mem_cons_of_mem _ (List.mem_append_left _ (List.mem_of_getElem? h))
theorem innX10_spy_X10 : ∀ w ∈ wsX100, w ∈ wsX10_spy := fun _ h => List.mem_cons_of_mem _ (List.mem_append_right _ (List.mem_append_left _ h))
theorem innX10_spy_X8 : ∀ w ∈ wsX80, w ∈ wsX10_spy := fun _ h => List.mem_cons_of_mem _ (List.mem_append_right _ (List.mem_append_right _ (List.mem_append_left _ h)))
theorem iwoX10_believed {k : Nat} {w : Cond} (h : woX10_believed[k]? = some w) : w ∈ wsX10_believed := List.mem_cons_of_mem _ (List.mem_append_left _ (List.mem_of_getElem? h))
theorem innX10_believed_X10 : ∀ w ∈ wsX100, w ∈ wsX10_believed := fun _ h => List.mem_cons_of_mem _ (List.mem_append_right _ (List.mem_append_left _ h))
theorem innX10_believed_X8 : ∀ w ∈ wsX80, w ∈ wsX10_believed := fun _ h => List.mem_cons_of_mem _ (List.mem_append_right _ (List.mem_append_right _ (List.mem_append_left _ h)))
theorem iwoX10_earnest {k : Nat} {w : Cond} (h : woX10_earnest[k]? = some w) : w ∈ wsX10_earnest := List.mem_cons_of_mem _ (List.mem_append_left _ (List.mem_of_getElem? h))
theorem innX10_earnest_X10 : ∀ w ∈ wsX100, w ∈ wsX10_earnest := fun _ h => List.mem_cons_of_mem _ (List.mem_append_right _ (List.mem_append_left _ h))
theorem iwoX10_stands {k : Nat} {w : Cond} (h : woX10_stands[k]? = some w) : w ∈ wsX10_stands := List.mem_cons_of_mem _ (List.mem_append_left _ (List.mem_of_getElem? h))
theorem innX10_stands_X10 : ∀ w ∈ wsX100, w ∈ wsX10_stands := fun _ h => List.mem_cons_of_mem _ (List.mem_append_right _ (List.mem_append_left _ h))
theorem innX10_stands_X1 : ∀ w ∈ wsX10, w ∈ wsX10_stands := fun _ h => List.mem_cons_of_mem _ (List.mem_append_right _ (List.mem_append_right _ (List.mem_append_left _ h)))
theorem iwoX10_show {k : Nat} {w : Cond} (h : woX10_show[k]? = some w) : w ∈ wsX10_show := List.mem_cons_of_mem _ (List.mem_append_left _ (List.mem_of_getElem? h))
theorem innX10_show_X10 : ∀ w ∈ wsX100, w ∈ wsX10_show := fun _ h => List.mem_cons_of_mem _ (List.mem_append_right _ (List.mem_append_left _ h))
theorem innX10_show_X1 : ∀ w ∈ wsX10, w ∈ wsX10_show := fun _ h => List.mem_cons_of_mem _ (List.mem_append_right _ (List.mem_append_right _ (List.mem_append_left _ h)))
theorem iwoX10_offers {k : Nat} {w : Cond} (h : woX10_offers[k]? = some w) : w ∈ wsX10_offers := List.mem_cons_of_mem _ (List.mem_append_left _ (List.mem_of_getElem? h))
theorem innX10_offers_X10 : ∀ w ∈ wsX100, w ∈ wsX10_offers := fun _ h => List.mem_cons_of_mem _ (List.mem_append_right _ (List.mem_append_left _ h))
theorem innX10_offers_X8 : ∀ w ∈ wsX80, w ∈ wsX10_offers := fun _ h => List.mem_cons_of_mem _ (List.mem_append_right _ (List.mem_append_right _ (List.mem_append_left _ h)))
theorem iwoX10_most {k : Nat} {w : Cond} (h : woX10_most[k]? = some w) : w ∈ wsX10_most := List.mem_cons_of_mem _ (List.mem_append_left _ (List.mem_of_getElem? h))
theorem innX10_most_X10 : ∀ w ∈ wsX100, w ∈ wsX10_most := fun _ h => List.mem_cons_of_mem _ (List.mem_append_right _ (List.mem_append_left _ h))
theorem innX10_most_X8 : ∀ w ∈ wsX80, w ∈ wsX10_most := fun _ h => List.mem_cons_of_mem _ (List.mem_append_right _ (List.mem_append_right _ (List.mem_append_left _ h)))
theorem iwoX10_serves {k : Nat} {w : Cond} (h : woX10_serves[k]? = some w) : w ∈ wsX10_serves := List.mem_cons_of_mem _ (List.mem_append_left _ (List.mem_of_getElem? h))
theorem innX10_serves_X10 : ∀ w ∈ wsX100, w ∈ wsX10_serves := fun _ h => List.mem_cons_of_mem _ (List.mem_append_right _ (List.mem_append_left _ h))
theorem innX10_serves_X8 : ∀ w ∈ wsX80, w ∈ wsX10_serves := fun _ h => List.mem_cons_of_mem _ (List.mem_append_right _ (List.mem_append_right _ (List.mem_append_left _ h)))
theorem iwoX10_image {k : Nat} {w : Cond} (h : woX10_image[k]? = some w) : w ∈ wsX10_image := List.mem_cons_of_mem _ (List.mem_append_left _ (List.mem_of_getElem? h))
theorem innX10_image_X10 : ∀ w ∈ wsX100, w ∈ wsX10_image := fun _ h => List.mem_cons_of_mem _ (List.mem_append_right _ (List.mem_append_left _ h))
theorem innX10_image_X8 : ∀ w ∈ wsX80, w ∈ wsX10_image := fun _ h => List.mem_cons_of_mem _ (List.mem_append_right _ (List.mem_append_right _ (List.mem_append_left _ h)))
theorem iwoX10_restore {k : Nat} {w : Cond} (h : woX10_restore[k]? = some w) : w ∈ wsX10_restore := List.mem_cons_of_mem _ (List.mem_append_left _ (List.mem_of_getElem? h))
theorem innX10_restore_X10 : ∀ w ∈ wsX100, w ∈ wsX10_restore := fun _ h => List.mem_cons_of_mem _ (List.mem_append_right _ (List.mem_append_left _ h))
theorem iwoX10_status {k : Nat} {w : Cond} (h : woX10_status[k]? = some w) : w ∈ wsX10_status := List.mem_cons_of_mem _ (List.mem_append_left _ (List.mem_of_getElem? h))
theorem innX10_status_X10 : ∀ w ∈ wsX100, w ∈ wsX10_status := fun _ h => List.mem_cons_of_mem _ (List.mem_append_right _ (List.mem_append_left _ h))
theorem iwoX10_count {k : Nat} {w : Cond} (h : woX10_count[k]? = some w) : w ∈ wsX10_count := List.mem_cons_of_mem _ (List.mem_append_left _ (List.mem_of_getElem? h))
theorem innX10_count_X10 : ∀ w ∈ wsX100, w ∈ wsX10_count := fun _ h => List.mem_cons_of_mem _ (List.mem_append_right _ (List.mem_append_left _ h))
theorem innX10_count_X8 : ∀ w ∈ wsX80, w ∈ wsX10_count := fun _ h => List.mem_cons_of_mem _ (List.mem_append_right _ (List.mem_append_right _ (List.mem_append_left _ h)))
theorem innX10_count_X2 : ∀ w ∈ wsX20, w ∈ wsX10_count := fun _ h => List.mem_cons_of_mem _ (List.mem_append_right _ (List.mem_append_right _ (List.mem_append_right _ (h))))
theorem iwoX11_tellsNothing {k : Nat} {w : Cond} (h : woX11_tellsNothing[k]? = some w) : w ∈ wsX11_tellsNothing := List.mem_cons_of_mem _ (List.mem_append_left _ (List.mem_of_getElem? h))
theorem innX11_tellsNothing_X11 : ∀ w ∈ wsX110, w ∈ wsX11_tellsNothing := fun _ h => List.mem_cons_of_mem _ (List.mem_append_right _ (h))
theorem iwoX11_stands0 {k : Nat} {w : Cond} (h : woX11_stands0[k]? = some w) : w ∈ wsX11_stands0 := List.mem_cons_of_mem _ (List.mem_append_left _ (List.mem_of_getElem? h))
theorem innX11_stands0_X11 : ∀ w ∈ wsX110, w ∈ wsX11_stands0 := fun _ h => List.mem_cons_of_mem _ (List.mem_append_right _ (h))
theorem iwoX11_init {k : Nat} {w : Cond} (h : woX11_init[k]? = some w) : w ∈ wsX11_init := List.mem_cons_of_mem _ (List.mem_append_left _ (List.mem_of_getElem? h))
theorem innX11_init_X11 : ∀ w ∈ wsX110, w ∈ wsX11_init := fun _ h => List.mem_cons_of_mem _ (List.mem_append_right _ (List.mem_append_left _ h))
theorem iwoX11_bad {k : Nat} {w : Cond} (h : woX11_bad[k]? = some w) : w ∈ wsX11_bad := List.mem_cons_of_mem _ (List.mem_append_left _ (List.mem_of_getElem? h))
theorem innX11_bad_X11 : ∀ w ∈ wsX110, w ∈ wsX11_bad := fun _ h => List.mem_cons_of_mem _ (List.mem_append_right _ (h))
theorem iwoX11_feed {k : Nat} {w : Cond} (h : woX11_feed[k]? = some w) : w ∈ wsX11_feed := List.mem_cons_of_mem _ (List.mem_append_left _ (List.mem_of_getElem? h))
theorem innX11_feed_X11 : ∀ w ∈ wsX110, w ∈ wsX11_feed := fun _ h => List.mem_cons_of_mem _ (List.mem_append_right _ (h))
theorem iwoX11_byteAt {k : Nat} {w : Cond} (h : woX11_byteAt[k]? = some w) : w ∈ wsX11_byteAt := List.mem_cons_of_mem _ (List.mem_append_left _ (List.mem_of_getElem? h))
theorem innX11_byteAt_X11 : ∀ w ∈ wsX110, w ∈ wsX11_byteAt := fun _ h => List.mem_cons_of_mem _ (List.mem_append_right _ (h))
theorem iwoX11_blanks {k : Nat} {w : Cond} (h : woX11_blanks[k]? = some w) : w ∈ wsX11_blanks := List.mem_cons_of_mem _ (List.mem_append_left _ (List.mem_of_getElem? h))
theorem innX11_blanks_X11 : ∀ w ∈ wsX110, w ∈ wsX11_blanks := fun _ h => List.mem_cons_of_mem _ (List.mem_append_right _ (List.mem_append_left _ h))
theorem iwoX11_wrong {k : Nat} {w : Cond} (h : woX11_wrong[k]? = some w) : w ∈ wsX11_wrong := List.mem_cons_of_mem _ (List.mem_append_left _ (List.mem_of_getElem? h))
theorem innX11_wrong_X11 : ∀ w ∈ wsX110, w ∈ wsX11_wrong := fun _ h => List.mem_cons_of_mem _ (List.mem_append_right _ (h))
theorem iwoX11_number {k : Nat} {w : Cond} (h : woX11_number[k]? = some w) : w ∈ wsX11_number := List.mem_cons_of_mem _ (List.mem_append_left _ (List.mem_of_getElem? h))
theorem innX11_number_X11 : ∀ w ∈ wsX110, w ∈ wsX11_number := fun _ h => List.mem_cons_of_mem _ (List.mem_append_right _ (List.mem_append_left _ h))
theorem iwoX11_wordHere {k : Nat} {w : Cond} (h : woX11_wordHere[k]? = some w) : w ∈ wsX11_wordHere := List.mem_cons_of_mem _ (List.mem_append_left _ (List.mem_of_getElem? h))
theorem innX11_wordHere_X11 : ∀ w ∈ wsX110, w ∈ wsX11_wordHere := fun _ h => List.mem_cons_of_mem _ (List.mem_append_right _ (List.mem_append_left _ h))
theorem iwoX11_isWord {k : Nat} {w : Cond} (h : woX11_isWord[k]? = some w) : w ∈ wsX11_isWord := List.mem_cons_of_mem _ (List.mem_append_left _ (List.mem_of_getElem? h))
theorem innX11_isWord_X11 : ∀ w ∈ wsX110, w ∈ wsX11_isWord := fun _ h => List.mem_cons_of_mem _ (List.mem_append_right _ (List.mem_append_left _ h))
theorem iwoX11_skipWord {k : Nat} {w : Cond} (h : woX11_skipWord[k]? = some w) : w ∈ wsX11_skipWord := List.mem_cons_of_mem _ (List.mem_append_left _ (List.mem_of_getElem? h))
theorem innX11_skipWord_X11 : ∀ w ∈ wsX110, w ∈ wsX11_skipWord := fun _ h => List.mem_cons_of_mem _ (List.mem_append_right _ (List.mem_append_left _ h))
theorem iwoX11_closes {k : Nat} {w : Cond} (h : woX11_closes[k]? = some w) : w ∈ wsX11_closes := List.mem_cons_of_mem _ (List.mem_append_left _ (List.mem_of_getElem? h))
theorem innX11_closes_X11 : ∀ w ∈ wsX110, w ∈ wsX11_closes := fun _ h => List.mem_cons_of_mem _ (List.mem_append_right _ (List.mem_append_left _ h))
theorem iwoX11_starts {k : Nat} {w : Cond} (h : woX11_starts[k]? = some w) : w ∈ wsX11_starts := List.mem_cons_of_mem _ (List.mem_append_left _ (List.mem_of_getElem? h))
theorem innX11_starts_X11 : ∀ w ∈ wsX110, w ∈ wsX11_starts := fun _ h => List.mem_cons_of_mem _ (List.mem_append_right _ (List.mem_append_left _ h))
theorem iwoX11_clause {k : Nat} {w : Cond} (h : woX11_clause[k]? = some w) : w ∈ wsX11_clause := List.mem_cons_of_mem _ (List.mem_append_left _ (List.mem_of_getElem? h))
theorem innX11_clause_X11 : ∀ w ∈ wsX110, w ∈ wsX11_clause := fun _ h => List.mem_cons_of_mem _ (List.mem_append_right _ (List.mem_append_left _ h))
theorem iwoX11_siege {k : Nat} {w : Cond} (h : woX11_siege[k]? = some w) : w ∈ wsX11_siege := List.mem_cons_of_mem _ (List.mem_append_left _ (List.mem_of_getElem? h))
theorem innX11_siege_X11 : ∀ w ∈ wsX110, w ∈ wsX11_siege := fun _ h => List.mem_cons_of_mem _ (List.mem_append_right _ (List.mem_append_left _ h))
theorem iwoX11_rules {k : Nat} {w : Cond} (h : woX11_rules[k]? = some w) : w ∈ wsX11_rules := List.mem_cons_of_mem _ (List.mem_append_left _ (List.mem_of_getElem? h))
theorem innX11_rules_X11 : ∀ w ∈ wsX110, w ∈ wsX11_rules := fun _ h => List.mem_cons_of_mem _ (List.mem_append_right _ (List.mem_append_left _ h))
theorem iwoX11_contract {k : Nat} {w : Cond} (h : woX11_contract[k]? = some w) : w ∈ wsX11_contract := List.mem_cons_of_mem _ (List.mem_append_left _ (List.mem_of_getElem? h))
theorem innX11_contract_X11 : ∀ w ∈ wsX110, w ∈ wsX11_contract := fun _ h => List.mem_cons_of_mem _ (List.mem_append_right _ (List.mem_append_left _ h))
theorem iwoX11_fault {k : Nat} {w : Cond} (h : woX11_fault[k]? = some w) : w ∈ wsX11_fault := List.mem_cons_of_mem _ (List.mem_append_left _ (List.mem_of_getElem? h))
theorem innX11_fault_X11 : ∀ w ∈ wsX110, w ∈ wsX11_fault := fun _ h => List.mem_cons_of_mem _ (List.mem_append_right _ (h))
theorem iwoX11_told {k : Nat} {w : Cond} (h : woX11_told[k]? = some w) : w ∈ wsX11_told := List.mem_cons_of_mem _ (List.mem_append_left _ (List.mem_of_getElem? h))
theorem innX11_told_X11 : ∀ w ∈ wsX110, w ∈ wsX11_told := fun _ h => List.mem_cons_of_mem _ (List.mem_append_right _ (List.mem_append_left _ h))
theorem iwoX11_isWall {k : Nat} {w : Cond} (h : woX11_isWall[k]? = some w) : w ∈ wsX11_isWall := List.mem_cons_of_mem _ (List.mem_append_left _ (List.mem_of_getElem? h))
theorem innX11_isWall_X11 : ∀ w ∈ wsX110, w ∈ wsX11_isWall := fun _ h => List.mem_cons_of_mem _ (List.mem_append_right _ (List.mem_append_left _ h))
theorem iwoX11_wall {k : Nat} {w : Cond} (h : woX11_wall[k]? = some w) : w ∈ wsX11_wall := List.mem_cons_of_mem _ (List.mem_append_left _ (List.mem_of_getElem? h))
theorem innX11_wall_X11 : ∀ w ∈ wsX110, w ∈ wsX11_wall := fun _ h => List.mem_cons_of_mem _ (List.mem_append_right _ (List.mem_append_left _ h))
theorem iwoX11_isContract {k : Nat} {w : Cond} (h : woX11_isContract[k]? = some w) : w ∈ wsX11_isContract := List.mem_cons_of_mem _ (List.mem_append_left _ (List.mem_of_getElem? h))
theorem innX11_isContract_X11 : ∀ w ∈ wsX110, w ∈ wsX11_isContract := fun _ h => List.mem_cons_of_mem _ (List.mem_append_right _ (List.mem_append_left _ h))
theorem iwoX11_rule {k : Nat} {w : Cond} (h : woX11_rule[k]? = some w) : w ∈ wsX11_rule := List.mem_cons_of_mem _ (List.mem_append_left _ (List.mem_of_getElem? h))
theorem innX11_rule_X11 : ∀ w ∈ wsX110, w ∈ wsX11_rule := fun _ h => List.mem_cons_of_mem _ (List.mem_append_right _ (List.mem_append_left _ h))
theorem iwoX11_wantsFor {k : Nat} {w : Cond} (h : woX11_wantsFor[k]? = some w) : w ∈ wsX11_wantsFor := List.mem_cons_of_mem _ (List.mem_append_left _ (List.mem_of_getElem? h))
theorem innX11_wantsFor_X11 : ∀ w ∈ wsX110, w ∈ wsX11_wantsFor := fun _ h => List.mem_cons_of_mem _ (List.mem_append_right _ (h))
theorem iwoX11_wants {k : Nat} {w : Cond} (h : woX11_wants[k]? = some w) : w ∈ wsX11_wants := List.mem_cons_of_mem _ (List.mem_append_left _ (List.mem_of_getElem? h))
theorem innX11_wants_X11 : ∀ w ∈ wsX110, w ∈ wsX11_wants := fun _ h => List.mem_cons_of_mem _ (List.mem_append_right _ (List.mem_append_left _ h))
theorem iwoX11_signs {k : Nat} {w : Cond} (h : woX11_signs[k]? = some w) : w ∈ wsX11_signs := List.mem_cons_of_mem _ (List.mem_append_left _ (List.mem_of_getElem? h))
theorem innX11_signs_X11 : ∀ w ∈ wsX110, w ∈ wsX11_signs := fun _ h => List.mem_cons_of_mem _ (List.mem_append_right _ (h))
theorem iwoX11_sign {k : Nat} {w : Cond} (h : woX11_sign[k]? = some w) : w ∈ wsX11_sign := List.mem_cons_of_mem _ (List.mem_append_left _ (List.mem_of_getElem? h))
theorem innX11_sign_X11 : ∀ w ∈ wsX110, w ∈ wsX11_sign := fun _ h => List.mem_cons_of_mem _ (List.mem_append_right _ (List.mem_append_left _ h))
theorem iwoX11_pays {k : Nat} {w : Cond} (h : woX11_pays[k]? = some w) : w ∈ wsX11_pays := List.mem_cons_of_mem _ (List.mem_append_left _ (List.mem_of_getElem? h))
theorem innX11_pays_X11 : ∀ w ∈ wsX110, w ∈ wsX11_pays := fun _ h => List.mem_cons_of_mem _ (List.mem_append_right _ (List.mem_append_left _ h))
theorem iwoX11_fears {k : Nat} {w : Cond} (h : woX11_fears[k]? = some w) : w ∈ wsX11_fears := List.mem_cons_of_mem _ (List.mem_append_left _ (List.mem_of_getElem? h))
theorem innX11_fears_X11 : ∀ w ∈ wsX110, w ∈ wsX11_fears := fun _ h => List.mem_cons_of_mem _ (List.mem_append_right _ (List.mem_append_left _ h))
theorem iwoX11_weakest {k : Nat} {w : Cond} (h : woX11_weakest[k]? = some w) : w ∈ wsX11_weakest := List.mem_cons_of_mem _ (List.mem_append_left _ (List.mem_of_getElem? h))
theorem innX11_weakest_X11 : ∀ w ∈ wsX110, w ∈ wsX11_weakest := fun _ h => List.mem_cons_of_mem _ (List.mem_append_right _ (h))
theorem iwoX11_shoots {k : Nat} {w : Cond} (h : woX11_shoots[k]? = some w) : w ∈ wsX11_shoots := List.mem_cons_of_mem _ (List.mem_append_left _ (List.mem_of_getElem? h))
theorem innX11_shoots_X11 : ∀ w ∈ wsX110, w ∈ wsX11_shoots := fun _ h => List.mem_cons_of_mem _ (List.mem_append_right _ (List.mem_append_left _ h))
theorem iwoX11_underContract {k : Nat} {w : Cond} (h : woX11_underContract[k]? = some w) : w ∈ wsX11_underContract := List.mem_cons_of_mem _ (List.mem_append_left _ (List.mem_of_getElem? h))
theorem innX11_underContract_X11 : ∀ w ∈ wsX110, w ∈ wsX11_underContract := fun _ h => List.mem_cons_of_mem _ (List.mem_append_right _ (List.mem_append_left _ h))
theorem iwoX11_mends {k : Nat} {w : Cond} (h : woX11_mends[k]? = some w) : w ∈ wsX11_mends := List.mem_cons_of_mem _ (List.mem_append_left _ (List.mem_of_getElem? h))
theorem innX11_mends_X11 : ∀ w ∈ wsX110, w ∈ wsX11_mends := fun _ h => List.mem_cons_of_mem _ (List.mem_append_right _ (List.mem_append_left _ h))
theorem iwoX11_deserts {k : Nat} {w : Cond} (h : woX11_deserts[k]? = some w) : w ∈ wsX11_deserts := List.mem_cons_of_mem _ (List.mem_append_left _ (List.mem_of_getElem? h))
theorem innX11_deserts_X11 : ∀ w ∈ wsX110, w ∈ wsX11_deserts := fun _ h => List.mem_cons_of_mem _ (List.mem_append_right _ (h))
theorem iwoX11_monthGoes {k : Nat} {w : Cond} (h : woX11_monthGoes[k]? = some w) : w ∈ wsX11_monthGoes := List.mem_cons_of_mem _ (List.mem_append_left _ (List.mem_of_getElem? h))
theorem innX11_monthGoes_X11 : ∀ w ∈ wsX110, w ∈ wsX11_monthGoes := fun _ h => List.mem_cons_of_mem _ (List.mem_append_right _ (List.mem_append_left _ h))
theorem iwoX11_puts {k : Nat} {w : Cond} (h : woX11_puts[k]? = some w) : w ∈ wsX11_puts := List.mem_cons_of_mem _ (List.mem_append_left _ (List.mem_of_getElem? h))
theorem innX11_puts_X11 : ∀ w ∈ wsX110, w ∈ wsX11_puts := fun _ h => List.mem_cons_of_mem _ (List.mem_append_right _ (h))
theorem iwoX11_takes {k : Nat} {w : Cond} (h : woX11_takes[k]? = some w) : w ∈ wsX11_takes := List.mem_cons_of_mem _ (List.mem_append_left _ (List.mem_of_getElem? h))
theorem innX11_takes_X11 : ∀ w ∈ wsX110, w ∈ wsX11_takes := fun _ h => List.mem_cons_of_mem _ (List.mem_append_right _ (h))
theorem iwoX11_months {k : Nat} {w : Cond} (h : woX11_months[k]? = some w) : w ∈ wsX11_months := List.mem_cons_of_mem _ (List.mem_append_left _ (List.mem_of_getElem? h))
theorem innX11_months_X11 : ∀ w ∈ wsX110, w ∈ wsX11_months := fun _ h => List.mem_cons_of_mem _ (List.mem_append_right _ (List.mem_append_left _ h))
theorem iwoX11_undo {k : Nat} {w : Cond} (h : woX11_undo[k]? = some w) : w ∈ wsX11_undo := List.mem_cons_of_mem _ (List.mem_append_left _ (List.mem_of_getElem? h))
theorem innX11_undo_X11 : ∀ w ∈ wsX110, w ∈ wsX11_undo := fun _ h => List.mem_cons_of_mem _ (List.mem_append_right _ (List.mem_append_left _ h))
theorem iwoX11_sums {k : Nat} {w : Cond} (h : woX11_sums[k]? = some w) : w ∈ wsX11_sums := List.mem_cons_of_mem _ (List.mem_append_left _ (List.mem_of_getElem? h))
theorem innX11_sums_X11 : ∀ w ∈ wsX110, w ∈ wsX11_sums := fun _ h => List.mem_cons_of_mem _ (List.mem_append_right _ (List.mem_append_left _ h))
theorem iwoX11_corks {k : Nat} {w : Cond} (h : woX11_corks[k]? = some w) : w ∈ wsX11_corks := List.mem_cons_of_mem _ (List.mem_append_left _ (List.mem_of_getElem? h))
theorem innX11_corks_X11 : ∀ w ∈ wsX110, w ∈ wsX11_corks := fun _ h => List.mem_cons_of_mem _ (List.mem_append_right _ (List.mem_append_left _ h))
theorem iwoX11_by {k : Nat} {w : Cond} (h : woX11_by[k]? = some w) : w ∈ wsX11_by := List.mem_cons_of_mem _ (List.mem_append_left _ (List.mem_of_getElem? h))
theorem innX11_by_X11 : ∀ w ∈ wsX110, w ∈ wsX11_by := fun _ h => List.mem_cons_of_mem _ (List.mem_append_right _ (List.mem_append_left _ h))
theorem iwoX11_would {k : Nat} {w : Cond} (h : woX11_would[k]? = some w) : w ∈ wsX11_would := List.mem_cons_of_mem _ (List.mem_append_left _ (List.mem_of_getElem? h))
theorem innX11_would_X11 : ∀ w ∈ wsX110, w ∈ wsX11_would := fun _ h => List.mem_cons_of_mem _ (List.mem_append_right _ (List.mem_append_left _ h))
theorem iwoX11_best {k : Nat} {w : Cond} (h : woX11_best[k]? = some w) : w ∈ wsX11_best := List.mem_cons_of_mem _ (List.mem_append_left _ (List.mem_of_getElem? h))
theorem innX11_best_X11 : ∀ w ∈ wsX110, w ∈ wsX11_best := fun _ h => List.mem_cons_of_mem _ (List.mem_append_right _ (List.mem_append_left _ h))
theorem iwoX11_byOffer {k : Nat} {w : Cond} (h : woX11_byOffer[k]? = some w) : w ∈ wsX11_byOffer := List.mem_cons_of_mem _ (List.mem_append_left _ (List.mem_of_getElem? h))
theorem innX11_byOffer_X11 : ∀ w ∈ wsX110, w ∈ wsX11_byOffer := fun _ h => List.mem_cons_of_mem _ (List.mem_append_right _ (List.mem_append_left _ h))
theorem iwoX11_offer {k : Nat} {w : Cond} (h : woX11_offer[k]? = some w) : w ∈ wsX11_offer := List.mem_cons_of_mem _ (List.mem_append_left _ (List.mem_of_getElem? h))
theorem innX11_offer_X11 : ∀ w ∈ wsX110, w ∈ wsX11_offer := fun _ h => List.mem_cons_of_mem _ (List.mem_append_right _ (List.mem_append_left _ h))
theorem iwoX11_nearest {k : Nat} {w : Cond} (h : woX11_nearest[k]? = some w) : w ∈ wsX11_nearest := List.mem_cons_of_mem _ (List.mem_append_left _ (List.mem_of_getElem? h))
theorem innX11_nearest_X11 : ∀ w ∈ wsX110, w ∈ wsX11_nearest := fun _ h => List.mem_cons_of_mem _ (List.mem_append_right _ (List.mem_append_left _ h))
theorem iwoX11_stop {k : Nat} {w : Cond} (h : woX11_stop[k]? = some w) : w ∈ wsX11_stop := List.mem_cons_of_mem _ (List.mem_append_left _ (List.mem_of_getElem? h))
theorem innX11_stop_X11 : ∀ w ∈ wsX110, w ∈ wsX11_stop := fun _ h => List.mem_cons_of_mem _ (List.mem_append_right _ (List.mem_append_left _ h))
theorem iwoX11_odds {k : Nat} {w : Cond} (h : woX11_odds[k]? = some w) : w ∈ wsX11_odds := List.mem_cons_of_mem _ (List.mem_append_left _ (List.mem_of_getElem? h))
theorem innX11_odds_X11 : ∀ w ∈ wsX110, w ∈ wsX11_odds := fun _ h => List.mem_cons_of_mem _ (List.mem_append_right _ (List.mem_append_left _ h))
theorem iwoX11_kind {k : Nat} {w : Cond} (h : woX11_kind[k]? = some w) : w ∈ wsX11_kind := List.mem_cons_of_mem _ (List.mem_append_left _ (List.mem_of_getElem? h))
theorem innX11_kind_X11 : ∀ w ∈ wsX110, w ∈ wsX11_kind := fun _ h => List.mem_cons_of_mem _ (List.mem_append_right _ (List.mem_append_left _ h))
theorem iwoX11_isSeen {k : Nat} {w : Cond} (h : woX11_isSeen[k]? = some w) : w ∈ wsX11_isSeen := List.mem_cons_of_mem _ (List.mem_append_left _ (List.mem_of_getElem? h))
theorem innX11_isSeen_X11 : ∀ w ∈ wsX110, w ∈ wsX11_isSeen := fun _ h => List.mem_cons_of_mem _ (List.mem_append_right _ (h))
theorem iwoX11_seen {k : Nat} {w : Cond} (h : woX11_seen[k]? = some w) : w ∈ wsX11_seen := List.mem_cons_of_mem _ (List.mem_append_left _ (List.mem_of_getElem? h))
theorem innX11_seen_X11 : ∀ w ∈ wsX110, w ∈ wsX11_seen := fun _ h => List.mem_cons_of_mem _ (List.mem_append_right _ (List.mem_append_left _ h))
theorem iwoX11_spy {k : Nat} {w : Cond} (h : woX11_spy[k]? = some w) : w ∈ wsX11_spy := List.mem_cons_of_mem _ (List.mem_append_left _ (List.mem_of_getElem? h))
theorem innX11_spy_X11 : ∀ w ∈ wsX110, w ∈ wsX11_spy := fun _ h => List.mem_cons_of_mem _ (List.mem_append_right _ (List.mem_append_left _ h))
theorem iwoX11_believed {k : Nat} {w : Cond} (h : woX11_believed[k]? = some w) : w ∈ wsX11_believed := List.mem_cons_of_mem _ (List.mem_append_left _ (List.mem_of_getElem? h))
theorem innX11_believed_X11 : ∀ w ∈ wsX110, w ∈ wsX11_believed := fun _ h => List.mem_cons_of_mem _ (List.mem_append_right _ (List.mem_append_left _ h))
theorem iwoX11_falls {k : Nat} {w : Cond} (h : woX11_falls[k]? = some w) : w ∈ wsX11_falls := List.mem_cons_of_mem _ (List.mem_append_left _ (List.mem_of_getElem? h))
theorem innX11_falls_X11 : ∀ w ∈ wsX110, w ∈ wsX11_falls := fun _ h => List.mem_cons_of_mem _ (List.mem_append_right _ (List.mem_append_left _ h))
theorem iwoX11_firstWalls {k : Nat} {w : Cond} (h : woX11_firstWalls[k]? = some w) : w ∈ wsX11_firstWalls := List.mem_cons_of_mem _ (List.mem_append_left _ (List.mem_of_getElem? h))
theorem innX11_firstWalls_X11 : ∀ w ∈ wsX110, w ∈ wsX11_firstWalls := fun _ h => List.mem_cons_of_mem _ (List.mem_append_right _ (List.mem_append_left _ h))
theorem iwoX11_safeBy {k : Nat} {w : Cond} (h : woX11_safeBy[k]? = some w) : w ∈ wsX11_safeBy := List.mem_cons_of_mem _ (List.mem_append_left _ (List.mem_of_getElem? h))
theorem innX11_safeBy_X11 : ∀ w ∈ wsX110, w ∈ wsX11_safeBy := fun _ h => List.mem_cons_of_mem _ (List.mem_append_right _ (List.mem_append_left _ h))
theorem iwoX11_earnest {k : Nat} {w : Cond} (h : woX11_earnest[k]? = some w) : w ∈ wsX11_earnest := List.mem_cons_of_mem _ (List.mem_append_left _ (List.mem_of_getElem? h))
theorem innX11_earnest_X11 : ∀ w ∈ wsX110, w ∈ wsX11_earnest := fun _ h => List.mem_cons_of_mem _ (List.mem_append_right _ (List.mem_append_left _ h))
theorem iwoX11_stands {k : Nat} {w : Cond} (h : woX11_stands[k]? = some w) : w ∈ wsX11_stands := List.mem_cons_of_mem _ (List.mem_append_left _ (List.mem_of_getElem? h))
theorem innX11_stands_X11 : ∀ w ∈ wsX110, w ∈ wsX11_stands := fun _ h => List.mem_cons_of_mem _ (List.mem_append_right _ (List.mem_append_left _ h))
theorem iwoX11_show {k : Nat} {w : Cond} (h : woX11_show[k]? = some w) : w ∈ wsX11_show := List.mem_cons_of_mem _ (List.mem_append_left _ (List.mem_of_getElem? h))
theorem innX11_show_X11 : ∀ w ∈ wsX110, w ∈ wsX11_show := fun _ h => List.mem_cons_of_mem _ (List.mem_append_right _ (List.mem_append_left _ h))
theorem iwoX11_offers {k : Nat} {w : Cond} (h : woX11_offers[k]? = some w) : w ∈ wsX11_offers := List.mem_cons_of_mem _ (List.mem_append_left _ (List.mem_of_getElem? h))
theorem innX11_offers_X11 : ∀ w ∈ wsX110, w ∈ wsX11_offers := fun _ h => List.mem_cons_of_mem _ (List.mem_append_right _ (List.mem_append_left _ h))
theorem iwoX11_laysRest {k : Nat} {w : Cond} (h : woX11_laysRest[k]? = some w) : w ∈ wsX11_laysRest := List.mem_cons_of_mem _ (List.mem_append_left _ (List.mem_of_getElem? h))
theorem innX11_laysRest_X11 : ∀ w ∈ wsX110, w ∈ wsX11_laysRest := fun _ h => List.mem_cons_of_mem _ (List.mem_append_right _ (List.mem_append_left _ h))
theorem iwoX11_mostNow {k : Nat} {w : Cond} (h : woX11_mostNow[k]? = some w) : w ∈ wsX11_mostNow := List.mem_cons_of_mem _ (List.mem_append_left _ (List.mem_of_getElem? h))
theorem innX11_mostNow_X11 : ∀ w ∈ wsX110, w ∈ wsX11_mostNow := fun _ h => List.mem_cons_of_mem _ (List.mem_append_right _ (List.mem_append_left _ h))
theorem iwoX11_most {k : Nat} {w : Cond} (h : woX11_most[k]? = some w) : w ∈ wsX11_most := List.mem_cons_of_mem _ (List.mem_append_left _ (List.mem_of_getElem? h))
theorem innX11_most_X11 : ∀ w ∈ wsX110, w ∈ wsX11_most := fun _ h => List.mem_cons_of_mem _ (List.mem_append_right _ (List.mem_append_left _ h))
theorem iwoX11_serves {k : Nat} {w : Cond} (h : woX11_serves[k]? = some w) : w ∈ wsX11_serves := List.mem_cons_of_mem _ (List.mem_append_left _ (List.mem_of_getElem? h))
theorem innX11_serves_X11 : ∀ w ∈ wsX110, w ∈ wsX11_serves := fun _ h => List.mem_cons_of_mem _ (List.mem_append_right _ (List.mem_append_left _ h))
theorem iwoX11_moves {k : Nat} {w : Cond} (h : woX11_moves[k]? = some w) : w ∈ wsX11_moves := List.mem_cons_of_mem _ (List.mem_append_left _ (List.mem_of_getElem? h))
theorem innX11_moves_X11 : ∀ w ∈ wsX110, w ∈ wsX11_moves := fun _ h => List.mem_cons_of_mem _ (List.mem_append_right _ (h))
theorem iwoX11_movesAll {k : Nat} {w : Cond} (h : woX11_movesAll[k]? = some w) : w ∈ wsX11_movesAll := List.mem_cons_of_mem _ (List.mem_append_left _ (List.mem_of_getElem? h))
theorem innX11_movesAll_X11 : ∀ w ∈ wsX110, w ∈ wsX11_movesAll := fun _ h => List.mem_cons_of_mem _ (List.mem_append_right _ (List.mem_append_left _ h))
theorem iwoX11_image {k : Nat} {w : Cond} (h : woX11_image[k]? = some w) : w ∈ wsX11_image := List.mem_cons_of_mem _ (List.mem_append_left _ (List.mem_of_getElem? h))
theorem innX11_image_X11 : ∀ w ∈ wsX110, w ∈ wsX11_image := fun _ h => List.mem_cons_of_mem _ (List.mem_append_right _ (List.mem_append_left _ h))
theorem iwoX11_restore {k : Nat} {w : Cond} (h : woX11_restore[k]? = some w) : w ∈ wsX11_restore := List.mem_cons_of_mem _ (List.mem_append_left _ (List.mem_of_getElem? h))
theorem innX11_restore_X11 : ∀ w ∈ wsX110, w ∈ wsX11_restore := fun _ h => List.mem_cons_of_mem _ (List.mem_append_right _ (List.mem_append_left _ h))
theorem iwoX11_status {k : Nat} {w : Cond} (h : woX11_status[k]? = some w) : w ∈ wsX11_status := List.mem_cons_of_mem _ (List.mem_append_left _ (List.mem_of_getElem? h))
theorem innX11_status_X11 : ∀ w ∈ wsX110, w ∈ wsX11_status := fun _ h => List.mem_cons_of_mem _ (List.mem_append_right _ (List.mem_append_left _ h))
theorem iwoX11_count {k : Nat} {w : Cond} (h : woX11_count[k]? = some w) : w ∈ wsX11_count := List.mem_cons_of_mem _ (List.mem_append_left _ (List.mem_of_getElem? h))
theorem innX11_count_X11 : ∀ w ∈ wsX110, w ∈ wsX11_count := fun _ h => List.mem_cons_of_mem _ (List.mem_append_right _ (h))
end
section
/-! tools: one shape for all contracts; the class ids of arrays are one table, the statics one predicate -/
abbrev he_G : Type := va_G × (Nat → ClassId)
abbrev he_ty (g : he_G) : List (ClassId × FieldType) := [(g.2 0, .byte), (g.2 1, .int), (g.2 2, .object "HiredEnemy$Pact"), (g.2 3, .object "HiredEnemy$Scene"), (g.2 4, .array .int), (g.2 5, .long)]
def he_tab (l : List Int32) (k : Nat) : Value := .int (l.getD k 0)
def he_untold : List Int32 := [0, 0, 0, 1000, 100, 3, 0, 100, 5, 5000, 20, 0, 20, 10, 5, 0, 0, 0, 1, 0, 0, 5, 1, 0]
def he_numbers : List Int32 := [2, 3, 3, 2, 3, 2, 1, 2]
def he_high : List Int32 := [99, 50, 0, 9999, 999, 9, 9999, 999, 9, 9999, 100, 0, 100, 50, 50, 9, 20, 0, 9, 0, 0, 99, 99, 0]
def he_pacthigh : List Int32 := [999, 999, 9, 99, 99, 36]
/-- a static array of ints, outside A -/
def he_Ta (C n : String) (N : Nat) (tb : List Int32) (A : Nat → Prop) (U : State) (H : Heap) : Prop := ∃ t : Nat, va_Z C n "[I" (.ref t) A U H ∧ va_T .int t N (he_tab tb) A U H
theorem he_Ta.moved {C n : String} {N : Nat} {tb : List Int32} {A : Nat → Prop} {u U : State} {H : Heap} (hvm : u.vm.Alike U.vm) (h : he_Ta C n N tb A u H) : he_Ta C n N tb A U H := by
  obtain ⟨t, h1, h2⟩ := h
  exact ⟨t, h1.moved hvm, h2.moved hvm⟩
theorem he_Ta.kept {C n : String} {N : Nat} {tb : List Int32} {A : Nat → Prop} {U : State} {H H1 : Heap} (h : he_Ta C n N tb A U H) (hq : ∀ a : Nat, a < H.size → ¬ A a → H1[a]? = H[a]?) : he_Ta C n N tb A U H1 := by
  obtain ⟨t, h1, h2⟩ := h
  exact ⟨t, h1.kept hq, h2.kept hq⟩
theorem he_Ta.narrow {C n : String} {N : Nat} {tb : List Int32} {A B : Nat → Prop} {U : State} {H : Heap} (h : he_Ta C n N tb A U H) (hAB : ∀ q, B q → A q) : he_Ta C n N tb B U H := by
  obtain ⟨t, h1, h2⟩ := h
  exact ⟨t, h1.narrow hAB, h2.narrow hAB⟩
/-- the private members that are reached from another class of the nest -/
def he_nest : List (String × Nat × MethodName) := [(RX10, 15, yX7_init), (RX6, 3, yX9_init), (RX10, 38, yX8_init), (RX8, 9, yX4_init), (RX8, 18, yX0_init), (RX8, 25, yX2_init), (RX8, 32, yX3_init), (RX10, 49, yX4_init), (RX10, 56, yX1_init), (RX10, 65, yX5_init), (RX5, 3, yX9_init), (RX0, 21, yX10_within), (RX6, 39, yX10_within), (RX5, 37, yX10_within), (RX7, 88, yX10_within)]
/-- the methods that the tables say are declared -/
def he_decl : List MethodName := [⟨RX9, "words", "()Ljava/lang/String;"⟩, ⟨RX9, "mostParts", "()I"⟩, ⟨RX9, "isFull", "(I)Z"⟩, ⟨RX9, "numbers", "(I)I"⟩, ⟨RX9, "low", "(II)I"⟩, ⟨RX9, "high", "(II)I"⟩, ⟨RX9, "store", "(I[I)V"⟩, ⟨"java/lang/Exception", "<init>", "(Ljava/lang/String;)V"⟩, ⟨"java/lang/RuntimeException", "<init>", "(Ljava/lang/String;)V"⟩, ⟨"java/lang/Throwable", "<init>", "(Ljava/lang/String;)V"⟩]
def he_cast : List (String × String) := [("java/lang/IllegalArgumentException", "java/lang/IllegalArgumentException"), ("java/lang/IndexOutOfBoundsException", "java/lang/IndexOutOfBoundsException"), ("java/util/NoSuchElementException", "java/util/NoSuchElementException")]
/-- a text of words: where it lies, and its bytes -/
def he_Sr (own : String) (k : Nat) (tx : String) (byt : List Int32) (a v : Nat) (A : Nat → Prop) (U : State) (H : Heap) : Prop := vk_R own k tx a U ∧ va_O RJ0 a A U H ∧ va_OF RJ0 "coder" "B" (.int 0) a A U H ∧ va_OF RJ0 "value" "[B" (.ref v) a A U H ∧ va_T .byte v byt.length (he_tab byt) A U H
theorem he_Sr.moved {own tx : String} {k a v : Nat} {byt : List Int32} {A : Nat → Prop} {u U : State} {H : Heap} (hvm : u.WarmedH U.vm) (h : he_Sr own k tx byt a v A u H) : he_Sr own k tx byt a v A U H := ⟨h.1.warm hvm, va_O.moved hvm.alike h.2.1, va_OF.moved hvm.alike h.2.2.1, va_OF.moved hvm.alike h.2.2.2.1, va_T.moved hvm.alike h.2.2.2.2⟩
theorem he_Sr.same {own tx : String} {k a v : Nat} {byt : List Int32} {A : Nat → Prop} {u U : State} {H : Heap} (hvm : U.vm = u.vm) (h : he_Sr own k tx byt a v A u H) : he_Sr own k tx byt a v A U H := by
  have ha : u.vm.Alike U.vm := by rw [hvm]; exact Vm.Alike.refl u.vm
  exact ⟨h.1.same hvm, va_O.moved ha h.2.1, va_OF.moved ha h.2.2.1, va_OF.moved ha h.2.2.2.1, va_T.moved ha h.2.2.2.2⟩
theorem he_Sr.kept {own tx : String} {k a v : Nat} {byt : List Int32} {A : Nat → Prop} {U : State} {H H1 : Heap} (h : he_Sr own k tx byt a v A U H) (hq : ∀ a : Nat, a < H.size → ¬ A a → H1[a]? = H[a]?) : he_Sr own k tx byt a v A U H1 := ⟨h.1, h.2.1.kept hq, h.2.2.1.kept hq, h.2.2.2.1.kept hq, h.2.2.2.2.kept hq⟩
theorem he_Sr.narrow {own tx : String} {k a v : Nat} {byt : List Int32} {A B : Nat → Prop} {U : State} {H : Heap} (h : he_Sr own k tx byt a v A U H) (hAB : ∀ q, B q → A q) : he_Sr own k tx byt a v B U H := ⟨h.1, h.2.1.narrow hAB, h.2.2.1.narrow hAB, h.2.2.2.1.narrow hAB, h.2.2.2.2.narrow hAB⟩
def he_w6 : List Int32 := [119, 97, 108, 108, 32, 100, 117, 107, 101, 32, 101, 110, 101, 109, 121, 32, 116, 111, 119, 110, 32, 102, 101, 97, 114, 32, 110, 101, 97, 114, 32, 109, 97, 115, 111, 110, 32, 99, 111, 115, 116]
def he_w5 : List Int32 := [112, 97, 121, 32, 119, 105, 110, 116, 101, 114, 32, 110, 101, 97, 114, 32, 99, 111, 114, 107, 115, 32, 98, 111, 110, 117, 115, 32, 116, 105, 108, 108, 32, 98, 114, 101, 97, 99, 104]
def he_W (g : he_G) (A : Nat → Prop) (U : State) (H : Heap) : Prop := (va_Z RJ0 "COMPACT_STRINGS" "Z" (.int 1) A U H ∧ va_Zq RJ3 "SIOOBE_FORMATTER" "Ljava/util/function/BiFunction;" A U H) ∧ he_Sr RX6 34 "wall duke enemy town fear near mason cost" he_w6 (g.2 10) (g.2 20) A U H ∧ he_Sr RX5 32 "pay winter near corks bonus till breach" he_w5 (g.2 11) (g.2 21) A U H
/-- what lies outside: static arrays, what a throw needs, the texts, the nest's links -/
def he_E (g : he_G) (A : Nat → Prop) (U : State) (H : Heap) : Prop := he_Ta RX6 "UNTOLD" 24 he_untold A U H ∧ he_Ta RX6 "NUMBERS" 8 he_numbers A U H ∧ he_Ta RX6 "HIGH" 24 he_high A U H ∧ he_Ta RX5 "HIGH" 6 he_pacthigh A U H ∧ vx_Zq Bundle.tN "UNASSIGNED_STACK" Bundle.steD A U H ∧ vx_Zq Bundle.tN "SUPPRESSED_SENTINEL" Bundle.listD A U H ∧ (∃ a : Nat, vk_R RX10 253 "no such argument" a U) ∧ (∃ a : Nat, vk_R RX10 260 "no such wall" a U) ∧ (∃ a : Nat, vk_R RX10 265 "no such contract" a U) ∧ (∀ q ∈ he_nest, va_Nw (.methodLinkNest q.1 q.2.1 q.2.2 "HiredEnemy") U) ∧ (∀ x ∈ he_decl, va_Nw (.declares x) U) ∧ va_AO RX5 U ∧ va_AO RX8 U ∧ va_AOA .int U ∧ (∀ q ∈ he_cast, va_Nw (.castable q.1 q.2) U) ∧ va_Nc "java/lang/IllegalArgumentException" "java/util/NoSuchElementException" U ∧ he_W g A U H
theorem he_aoa {u U : State} (hvm : u.vm.Alike U.vm) (h : va_AOA .int u) : va_AOA .int U := over_moved (a := #[]) (a' := #[]) hvm h
theorem he_E.moved {g : he_G} {A : Nat → Prop} {u U : State} {H : Heap} (hvm : u.WarmedH U.vm) (h : he_E g A u H) : he_E g A U H := by
  obtain ⟨h1, h2, h3, h4, h5, h6, ⟨a7, h7⟩, ⟨a8, h8⟩, ⟨a9, h9⟩, h10, h11, h12, h13, h14, h15, h16, hw1, hw2, hw3⟩ := h
  exact ⟨h1.moved hvm.alike, h2.moved hvm.alike, h3.moved hvm.alike, h4.moved hvm.alike, h5.moved hvm.alike, h6.moved hvm.alike, ⟨a7, h7.warm hvm⟩, ⟨a8, h8.warm hvm⟩, ⟨a9, h9.warm hvm⟩, fun q hq => (h10 q hq).warmM hvm, fun q hq => (h11 q hq).warmD hvm, h12.moved hvm.alike, h13.moved hvm.alike, he_aoa hvm.alike h14, fun q hq => (h15 q hq).warmC hvm, h16.moved hvm.alike, ⟨hw1.1.moved hvm.alike, hw1.2.moved hvm.alike⟩, hw2.moved hvm, hw3.moved hvm⟩
theorem he_E.same {g : he_G} {A : Nat → Prop} {u U : State} {H : Heap} (hvm : U.vm = u.vm) (h : he_E g A u H) : he_E g A U H := by
  obtain ⟨h1, h2, h3, h4, h5, h6, ⟨a7, h7⟩, ⟨a8, h8⟩, ⟨a9, h9⟩, h10, h11, h12, h13, h14, h15, h16, hw1, hw2, hw3⟩ := h
  have ha : u.vm.Alike U.vm := by rw [hvm]; exact Vm.Alike.refl u.vm
  exact ⟨h1.moved ha, h2.moved ha, h3.moved ha, h4.moved ha, h5.moved ha, h6.moved ha, ⟨a7, h7.same hvm⟩, ⟨a8, h8.same hvm⟩, ⟨a9, h9.same hvm⟩, fun q hq => (h10 q hq).same rfl hvm.symm, fun q hq => (h11 q hq).same rfl hvm.symm, h12.moved ha, h13.moved ha, he_aoa ha h14, fun q hq => (h15 q hq).same rfl hvm.symm, h16.moved ha, ⟨hw1.1.moved ha, hw1.2.moved ha⟩, hw2.same hvm, hw3.same hvm⟩
theorem he_E.kept {g : he_G} {A : Nat → Prop} {U : State} {H H1 : Heap} (h : he_E g A U H) (hq : ∀ a : Nat, a < H.size → ¬ A a → H1[a]? = H[a]?) : he_E g A U H1 := by
  obtain ⟨h1, h2, h3, h4, h5, h6, h7, h8, h9, h10, h11, h12, h13, h14, h15, h16, hw1, hw2, hw3⟩ := h
  exact ⟨h1.kept hq, h2.kept hq, h3.kept hq, h4.kept hq, h5.kept hq, h6.kept hq, h7, h8, h9, h10, h11, h12, h13, h14, h15, h16, ⟨hw1.1.kept hq, hw1.2.kept hq⟩, hw2.kept hq, hw3.kept hq⟩
theorem he_E.narrow {g : he_G} {A B : Nat → Prop} {U : State} {H : Heap} (h : he_E g A U H) (hAB : ∀ q, B q → A q) : he_E g B U H := by
  obtain ⟨h1, h2, h3, h4, h5, h6, h7, h8, h9, h10, h11, h12, h13, h14, h15, h16, hw1, hw2, hw3⟩ := h
  exact ⟨h1.narrow hAB, h2.narrow hAB, h3.narrow hAB, h4.narrow hAB, h5.narrow hAB, h6.narrow hAB, h7, h8, h9, h10, h11, h12, h13, h14, h15, h16, ⟨hw1.1.narrow hAB, hw1.2.narrow hAB⟩, hw2.narrow hAB, hw3.narrow hAB⟩
theorem he_E.nest {g : he_G} {A : Nat → Prop} {U : State} {H : Heap} (h : he_E g A U H) : ∀ q ∈ he_nest, va_Nw (.methodLinkNest q.1 q.2.1 q.2.2 "HiredEnemy") U := h.2.2.2.2.2.2.2.2.2.1
theorem he_E.decl {g : he_G} {A : Nat → Prop} {U : State} {H : Heap} (h : he_E g A U H) : ∀ x ∈ he_decl, va_Nw (.declares x) U := h.2.2.2.2.2.2.2.2.2.2.1
theorem he_E.over {g : he_G} {A : Nat → Prop} {U : State} {H : Heap} (h : he_E g A U H) : va_AO RX5 U ∧ va_AO RX8 U ∧ va_AOA .int U := ⟨h.2.2.2.2.2.2.2.2.2.2.2.1, h.2.2.2.2.2.2.2.2.2.2.2.2.1, h.2.2.2.2.2.2.2.2.2.2.2.2.2.1⟩
theorem he_E.cast {g : he_G} {A : Nat → Prop} {U : State} {H : Heap} (h : he_E g A U H) : ∀ q ∈ he_cast, va_Nw (.castable q.1 q.2) U := h.2.2.2.2.2.2.2.2.2.2.2.2.2.2.1
theorem he_E.nc {g : he_G} {A : Nat → Prop} {U : State} {H : Heap} (h : he_E g A U H) : va_Nc "java/lang/IllegalArgumentException" "java/util/NoSuchElementException" U := h.2.2.2.2.2.2.2.2.2.2.2.2.2.2.2.1
theorem he_E.words {g : he_G} {A : Nat → Prop} {U : State} {H : Heap} (h : he_E g A U H) : he_W g A U H := h.2.2.2.2.2.2.2.2.2.2.2.2.2.2.2.2
/-- a contract's start: the world ws, heap of size sz -/
def he_pre (g : he_G) (ws : va_W) (sz : Nat) (U : State) : Prop := U.heap.size = sz ∧ va_P g.1 vwCl ws U.heap ∧ va_K g.1 vwCl (he_ty g) U ∧ va_D (fun _ => True) ws ∧ he_E g (va_A ws sz) U U.heap
/-- its end: the world ws1 within A -/
def he_post (g : he_G) (A : Nat → Prop) (ws1 : va_W) (t : State) : Prop := va_P g.1 vwCl ws1 t.heap ∧ va_D A ws1
abbrev he_room (fr lo mc ms : Nat) : Room := { frames := fr, cells := mc, slots := ms, locals := lo }
abbrev he_I {S : Type} (l : Launch) (y : MethodName) (wl : List Cond) (fr lo mc ms : Nat) (g : he_G) (av : List Value) (ws : va_W) (post : Int32 → S → Prop) (w1 : S → va_W) : Prop := ∀ sz : Nat, Met l y wl (he_room fr lo mc ms) (va_Pc av (he_pre g ws sz)) (va_Qi post (fun u t => he_post g (va_A ws sz) (w1 u) t) (va_A ws sz)) mc ms (va_A ws sz)
abbrev he_J {S : Type} (l : Launch) (y : MethodName) (wl : List Cond) (fr lo mc ms : Nat) (g : he_G) (av : List Value) (ws : va_W) (post : Int64 → S → Prop) (w1 : S → va_W) : Prop := ∀ sz : Nat, Met l y wl (he_room fr lo mc ms) (va_Pc av (he_pre g ws sz)) (va_Ql post (fun u t => he_post g (va_A ws sz) (w1 u) t) (va_A ws sz)) mc ms (va_A ws sz)
abbrev he_V {S : Type} (l : Launch) (y : MethodName) (wl : List Cond) (fr lo mc ms : Nat) (g : he_G) (av : List Value) (ws : va_W) (post : S → Prop) (w1 : S → va_W) : Prop := ∀ sz : Nat, Met l y wl (he_room fr lo mc ms) (va_Pc av (he_pre g ws sz)) (va_Qv post (fun u t => he_post g (va_A ws sz) (w1 u) t) (va_A ws sz)) mc ms (va_A ws sz)
abbrev he_O {S : Type} (l : Launch) (y : MethodName) (wl : List Cond) (fr lo mc ms : Nat) (g : he_G) (av : List Value) (ws : va_W) (post : Option Nat → S → Prop) (w1 : S → va_W) : Prop := ∀ sz : Nat, Met l y wl (he_room fr lo mc ms) (va_Pc av (he_pre g ws sz)) (va_Qq post (fun u t => he_post g (va_A ws sz) (w1 u) t) (va_A ws sz)) mc ms (va_A ws sz)
/-- what is known where a method has thrown En: the world wx -/
def he_XC (g : he_G) (A : Nat → Prop) (En : String) (wx : va_W) : String → State → State → Prop := vx_X (fun _ : Unit => True) (fun E _ t => E = En ∧ he_post g A wx t) A
abbrev he_QTv (A : Nat → Prop) : Array Value → State → Outcome → State → Prop := va_Qv (fun _ : Unit => False) (fun _ _ => True) A
abbrev he_QTi (A : Nat → Prop) : Array Value → State → Outcome → State → Prop := va_Qi (fun _ (_ : Unit) => False) (fun _ _ => True) A
abbrev he_QTj (A : Nat → Prop) : Array Value → State → Outcome → State → Prop := va_Ql (fun _ (_ : Unit) => False) (fun _ _ => True) A
abbrev he_T (QT : (Nat → Prop) → Array Value → State → Outcome → State → Prop) (l : Launch) (y : MethodName) (wl : List Cond) (fr lo mc ms : Nat) (g : he_G) (av : List Value) (ws : va_W) (En : String) (wx : va_W) : Prop := ∀ sz : Nat, vx_Met l y wl (he_room fr lo mc ms) (va_Pc av (he_pre g ws sz)) (QT (va_A ws sz)) (he_XC g (va_A ws sz) En wx) mc ms (va_A ws sz)
theorem he_fb {g : he_G} {ws : va_W} {sz : Nat} {av : List Value} : FrameBlind (va_Pc av (he_pre g ws sz)) := by
  intro a U f mk q
  obtain ⟨q0, q1, qP, qK, qD, qE⟩ := q
  exact ⟨q0, q1, qP, va_K.moved (u := U) (U := U.calling f mk a) (Vm.Alike.refl U.vm) qK, qD, qE.same rfl⟩
theorem he_same {U : State} {cA cB : ClassId} {nm : String} (h1 : U.vm.findClass nm = some cA) (h2 : U.vm.findClass nm = some cB) : cA = cB := Option.some.inj (h1.symm.trans h2)
theorem he_in {i : Int32} {k n : Nat} (hi : i = nI k) (hk : k < n) (hn : n < 2147483648) : vp_in i n ∧ i.toNatClampNeg = k := by
  subst hi
  exact ⟨vp_in_nI hk hn, nI_clamp (Nat.lt_trans hk hn)⟩
theorem he_cle {x y : Int32} {a b : Nat} (hx : x = nI a) (hy : y = nI b) (ha : a < 2147483648) (hb : b < 2147483648) : x ≤ y ↔ a ≤ b := by
  subst hx hy
  exact nI_leI ha hb
theorem he_clt {x y : Int32} {a b : Nat} (hx : x = nI a) (hy : y = nI b) (ha : a < 2147483648) (hb : b < 2147483648) : x < y ↔ a < b := by
  subst hx hy
  exact nI_ltI ha hb
theorem he_ceq {x y : Int32} {a b : Nat} (hx : x = nI a) (hy : y = nI b) (ha : a < 2147483648) (hb : b < 2147483648) : x = y ↔ a = b := by
  subst hx hy
  exact nI_eq ha hb
section HEA
variable {p : Program} {l : Launch} {e : Env} {R : Room} {s : State} {m : MethodId} {args : Array Value} {below : List Frame} {meth : Method} {c : Code} {H : Heap} {locs : List Loc} {cells slots : Nat} {Q : State → Prop} {g : he_G} {A : Nat → Prop} {ws wc wr : va_W} {pc : Nat} {ls : Array Slot} {rest st0 : List Value} {cc : ByteArray}
theorem he_preX (hK : va_K g.1 vwCl (he_ty g) s) (hP : va_P g.1 vwCl ws H) (hD : va_D A ws) (hS : va_S A s.heap H locs) (hA : ∀ q, s.heap.size ≤ q → A q) (hE : he_E g A s s.heap) (isC : List Nat) (hC : isC.map (fun i => ws[i]?) = wc.map some) (hnd : va_nd isC = true) (U : State) (hU : U.heap = H) (hW : s.WarmedH U.vm) : he_pre g wc H.size U := by
  have hF := va_free hD hS hA isC hC
  have e1 : isC.filterMap (fun i => ws[i]?) = wc := by
    have h := congrArg (fun l => l.filterMap id) hC
    simpa [List.filterMap_map, Function.comp_def] using h
  refine ⟨by rw [hU], by rw [hU]; exact hP.sub isC e1, va_K.moved hW.alike hK, (hD.sub isC hnd hC).weaken (fun _ _ _ _ => trivial), ?_⟩
  rw [hU]
  exact he_E.moved hW ((hE.kept (fun a h1 h2 => hS.2.1 a h1 h2)).narrow hF)
theorem he_preS (hK : va_K g.1 vwCl (he_ty g) s) (hP : va_P g.1 vwCl ws H) (hD : va_D A ws) (hS : va_S A s.heap H locs) (hA : ∀ q, s.heap.size ≤ q → A q) (hE : he_E g A s s.heap) (isC : List Nat) (hC : isC.map (fun i => ws[i]?) = wc.map some) (hnd : va_nd isC = true) {av : List Value} : PreS s H (va_Pc av (he_pre g wc H.size)) av := ⟨he_fb, fun U hU hW => ⟨rfl, he_preX hK hP hD hS hA hE isC hC hnd U hU hW⟩⟩
theorem he_preV (hK : va_K g.1 vwCl (he_ty g) s) (hP : va_P g.1 vwCl ws H) (hD : va_D A ws) (hS : va_S A s.heap H locs) (hA : ∀ q, s.heap.size ≤ q → A q) (hE : he_E g A s s.heap) (isC : List Nat) (hC : isC.map (fun i => ws[i]?) = wc.map some) (hnd : va_nd isC = true) (q0 : Nat) {b ci N : Nat} {C : String} {T : u_T} {fs : List Value} (hr : ws[q0]? = some (b, .inr (ci, fs))) (hc : vwCl[ci]? = some (C, T, N)) {av : List Value} : PreV s H C b (va_Pc (.ref b :: av) (he_pre g wc H.size)) av := ⟨he_fb, va_recv (q := (C, T, N)) hK hP hc hr, fun U hU hW => ⟨rfl, he_preX hK hP hD hS hA hE isC hC hnd U hU hW⟩⟩
theorem he_ci {S : Type} {post : Int32 → S → Prop} {w1 : S → va_W} {a : Array Value} {mc ms : Nat} (hr : va_Run p l e R s m args below meth c H locs cells slots mc ms (F0 m pc ls st0) rest (va_Qi post (fun u t => he_post g (va_A wc H.size) (w1 u) t) (va_A wc H.size) a) (va_A wc H.size)) (hP : va_P g.1 vwCl ws H) (hD : va_D A ws) (hS : va_S A s.heap H locs) (hA : ∀ q, s.heap.size ≤ q → A q) (isC isR : List Nat) (hC : isC.map (fun i => ws[i]?) = wc.map some) (hR : isR.map (fun i => ws[i]?) = wr.map some) (hn : va_nd isR = true) (hdis : ∀ i ∈ isR, i ∉ isC)
    (kk : ∀ (r : Int32) (u : S) (H1 : Heap) (locs1 : List Loc), post r u → va_P g.1 vwCl (wr ++ w1 u) H1 → va_D A (wr ++ w1 u) → va_S A s.heap H1 locs1 → W p l e R s m args below meth c H1 locs1 (cells + mc) (slots + ms) Q (F0 m (pc + 3) ls (.int r :: rest))) : W p l e R s m args below meth c H locs cells slots Q (F0 m pc ls st0) := by
  have hF := va_free hD hS hA isC hC
  refine va_calli hr hS (fun q _ h => hF q h) hF (fun r u t H1 locs1 ht hvm hw hB hz1 hk1 hS1 => ?_)
  obtain ⟨hP1, hD1⟩ := hB
  rw [ht] at hP1
  obtain ⟨hP2, hD2⟩ := va_join hP hD isC isR hC hR hn hdis hk1 hF hP1 hD1
  exact kk r u H1 locs1 hw hP2 hD2 hS1
theorem he_cj {S : Type} {post : Int64 → S → Prop} {w1 : S → va_W} {a : Array Value} {mc ms : Nat} (hr : va_Run p l e R s m args below meth c H locs cells slots mc ms (F0 m pc ls st0) rest (va_Ql post (fun u t => he_post g (va_A wc H.size) (w1 u) t) (va_A wc H.size) a) (va_A wc H.size)) (hP : va_P g.1 vwCl ws H) (hD : va_D A ws) (hS : va_S A s.heap H locs) (hA : ∀ q, s.heap.size ≤ q → A q) (isC isR : List Nat) (hC : isC.map (fun i => ws[i]?) = wc.map some) (hR : isR.map (fun i => ws[i]?) = wr.map some) (hn : va_nd isR = true) (hdis : ∀ i ∈ isR, i ∉ isC)
    (kk : ∀ (r : Int64) (u : S) (H1 : Heap) (locs1 : List Loc), post r u → va_P g.1 vwCl (wr ++ w1 u) H1 → va_D A (wr ++ w1 u) → va_S A s.heap H1 locs1 → W p l e R s m args below meth c H1 locs1 (cells + mc) (slots + ms) Q (F0 m (pc + 3) ls (.long r :: rest))) : W p l e R s m args below meth c H locs cells slots Q (F0 m pc ls st0) := by
  have hF := va_free hD hS hA isC hC
  refine va_calll hr hS (fun q _ h => hF q h) hF (fun r u t H1 locs1 ht hvm hw hB hz1 hk1 hS1 => ?_)
  obtain ⟨hP1, hD1⟩ := hB
  rw [ht] at hP1
  obtain ⟨hP2, hD2⟩ := va_join hP hD isC isR hC hR hn hdis hk1 hF hP1 hD1
  exact kk r u H1 locs1 hw hP2 hD2 hS1
theorem he_cv {S : Type} {post : S → Prop} {w1 : S → va_W} {a : Array Value} {mc ms : Nat} (hr : va_Run p l e R s m args below meth c H locs cells slots mc ms (F0 m pc ls st0) rest (va_Qv post (fun u t => he_post g (va_A wc H.size) (w1 u) t) (va_A wc H.size) a) (va_A wc H.size)) (hP : va_P g.1 vwCl ws H) (hD : va_D A ws) (hS : va_S A s.heap H locs) (hA : ∀ q, s.heap.size ≤ q → A q) (isC isR : List Nat) (hC : isC.map (fun i => ws[i]?) = wc.map some) (hR : isR.map (fun i => ws[i]?) = wr.map some) (hn : va_nd isR = true) (hdis : ∀ i ∈ isR, i ∉ isC)
    (kk : ∀ (u : S) (H1 : Heap) (locs1 : List Loc), post u → va_P g.1 vwCl (wr ++ w1 u) H1 → va_D A (wr ++ w1 u) → va_S A s.heap H1 locs1 → W p l e R s m args below meth c H1 locs1 (cells + mc) (slots + ms) Q (F0 m (pc + 3) ls rest)) : W p l e R s m args below meth c H locs cells slots Q (F0 m pc ls st0) := by
  have hF := va_free hD hS hA isC hC
  refine va_callv hr hS (fun q _ h => hF q h) hF (fun u t H1 locs1 ht hvm hw hB hz1 hk1 hS1 => ?_)
  obtain ⟨hP1, hD1⟩ := hB
  rw [ht] at hP1
  obtain ⟨hP2, hD2⟩ := va_join hP hD isC isR hC hR hn hdis hk1 hF hP1 hD1
  exact kk u H1 locs1 hw hP2 hD2 hS1
theorem he_cq {S : Type} {post : Option Nat → S → Prop} {w1 : S → va_W} {a : Array Value} {mc ms : Nat} (hr : va_Run p l e R s m args below meth c H locs cells slots mc ms (F0 m pc ls st0) rest (va_Qq post (fun u t => he_post g (va_A wc H.size) (w1 u) t) (va_A wc H.size) a) (va_A wc H.size)) (hP : va_P g.1 vwCl ws H) (hD : va_D A ws) (hS : va_S A s.heap H locs) (hA : ∀ q, s.heap.size ≤ q → A q) (isC isR : List Nat) (hC : isC.map (fun i => ws[i]?) = wc.map some) (hR : isR.map (fun i => ws[i]?) = wr.map some) (hn : va_nd isR = true) (hdis : ∀ i ∈ isR, i ∉ isC)
    (kk : ∀ (r : Option Nat) (u : S) (H1 : Heap) (locs1 : List Loc), post r u → va_P g.1 vwCl (wr ++ w1 u) H1 → va_D A (wr ++ w1 u) → va_S A s.heap H1 locs1 → W p l e R s m args below meth c H1 locs1 (cells + mc) (slots + ms) Q (F0 m (pc + 3) ls (va_rf r :: rest))) : W p l e R s m args below meth c H locs cells slots Q (F0 m pc ls st0) := by
  have hF := va_free hD hS hA isC hC
  refine va_callq hr hS (fun q _ h => hF q h) hF (fun r u t H1 locs1 ht hvm hw hB hz1 hk1 hS1 => ?_)
  obtain ⟨hP1, hD1⟩ := hB
  rw [ht] at hP1
  obtain ⟨hP2, hD2⟩ := va_join hP hD isC isR hC hR hn hdis hk1 hF hP1 hD1
  exact kk r u H1 locs1 hw hP2 hD2 hS1
theorem he_ri {S : Type} {post : Int32 → S → Prop} {w1 : S → va_W} {mc ms : Nat} {v : Int32} {ws1 : va_W} (hQ : Q = MQ below (va_Qi post (fun u t => he_post g A (w1 u) t) A) args s mc ms A) (hx : p.tables.exec = Jvm.exec) (hb : c.code = cc) (hr : meth.sig.returnType = some .int) (hlk : meth.locks = false) (hP : va_P g.1 vwCl ws1 H) (hD : va_D A ws1) (hS : va_S A s.heap H locs) (hdg : decode cc pc = .ok (.ireturn, 1)) (hc : cells ≤ mc) (hs : slots ≤ ms) (u : S) (hw : w1 u = ws1) (hp : post v u) : W p l e R s m args below meth c H locs cells slots Q (F0 m pc ls [.int v]) := by
  subst hQ
  refine W.widen (k := mc) (n := ms) hc hs ?_
  exact W.iret (v := v) hx hb hr (fun t ht hW => ⟨⟨v, u, rfl, hp, by rw [hw, ht]; exact hP, by rw [hw]; exact hD⟩, hS.F ht⟩) hS.2.2 hdg hlk
theorem he_rz {S : Type} {post : Int32 → S → Prop} {w1 : S → va_W} {mc ms : Nat} {v : Int32} {ws1 : va_W} (hQ : Q = MQ below (va_Qi post (fun u t => he_post g A (w1 u) t) A) args s mc ms A) (hx : p.tables.exec = Jvm.exec) (hb : c.code = cc) (hr : meth.sig.returnType = some .boolean) (hlk : meth.locks = false) (hP : va_P g.1 vwCl ws1 H) (hD : va_D A ws1) (hS : va_S A s.heap H locs) (hdg : decode cc pc = .ok (.ireturn, 1)) (hc : cells ≤ mc) (hs : slots ≤ ms) (hn : narrow .boolean (.int v) = .int v) (u : S) (hw : w1 u = ws1) (hp : post v u) : W p l e R s m args below meth c H locs cells slots Q (F0 m pc ls [.int v]) := by
  subst hQ
  refine W.widen (k := mc) (n := ms) hc hs ?_
  exact W.zret (v := v) hx hb hr hn (fun t ht hW => ⟨⟨v, u, rfl, hp, by rw [hw, ht]; exact hP, by rw [hw]; exact hD⟩, hS.F ht⟩) hS.2.2 hdg hlk
theorem he_rj {S : Type} {post : Int64 → S → Prop} {w1 : S → va_W} {mc ms : Nat} {v : Int64} {ws1 : va_W} (hQ : Q = MQ below (va_Ql post (fun u t => he_post g A (w1 u) t) A) args s mc ms A) (hx : p.tables.exec = Jvm.exec) (hb : c.code = cc) (hr : meth.sig.returnType = some .long) (hlk : meth.locks = false) (hP : va_P g.1 vwCl ws1 H) (hD : va_D A ws1) (hS : va_S A s.heap H locs) (hdg : decode cc pc = .ok (.lreturn, 1)) (hc : cells ≤ mc) (hs : slots ≤ ms) (u : S) (hw : w1 u = ws1) (hp : post v u) : W p l e R s m args below meth c H locs cells slots Q (F0 m pc ls [.long v]) := by
  subst hQ
  refine W.widen (k := mc) (n := ms) hc hs ?_
  exact W.lret (v := v) hx hb hr (fun t ht hW => ⟨⟨v, u, rfl, hp, by rw [hw, ht]; exact hP, by rw [hw]; exact hD⟩, hS.F ht⟩) hS.2.2 hdg hlk
theorem he_rv {S : Type} {post : S → Prop} {w1 : S → va_W} {mc ms : Nat} {ws1 : va_W} (hQ : Q = MQ below (va_Qv post (fun u t => he_post g A (w1 u) t) A) args s mc ms A) (hx : p.tables.exec = Jvm.exec) (hb : c.code = cc) (hr : meth.sig.returnType = none) (hlk : meth.locks = false) (hP : va_P g.1 vwCl ws1 H) (hD : va_D A ws1) (hS : va_S A s.heap H locs) (hdg : decode cc pc = .ok (.return_, 1)) (hc : cells ≤ mc) (hs : slots ≤ ms) (u : S) (hw : w1 u = ws1) (hp : post u) : W p l e R s m args below meth c H locs cells slots Q (F0 m pc ls []) := by
  subst hQ
  refine W.widen (k := mc) (n := ms) hc hs ?_
  exact W.vret hx hb hr (fun t ht hW => ⟨⟨u, rfl, hp, by rw [hw, ht]; exact hP, by rw [hw]; exact hD⟩, hS.F ht⟩) hS.2.2 hdg hlk
theorem he_ra {S : Type} {post : Option Nat → S → Prop} {w1 : S → va_W} {mc ms : Nat} {v : Value} {rt : FieldType} {ws1 : va_W} (hQ : Q = MQ below (va_Qq post (fun u t => he_post g A (w1 u) t) A) args s mc ms A) (hx : p.tables.exec = Jvm.exec) (hb : c.code = cc) (hr : meth.sig.returnType = some rt) (hlk : meth.locks = false) (hP : va_P g.1 vwCl ws1 H) (hD : va_D A ws1) (hS : va_S A s.heap H locs) (hdg : decode cc pc = .ok (.areturn, 1)) (hc : cells ≤ mc) (hs : slots ≤ ms) (hrt : (∃ n, rt = .object n) ∨ ∃ t, rt = .array t) (o : Option Nat) (ho : va_rf o = v) (u : S) (hw : w1 u = ws1) (hp : post o u) : W p l e R s m args below meth c H locs cells slots Q (F0 m pc ls [v]) := by
  subst hQ ho
  refine W.widen (k := mc) (n := ms) hc hs ?_
  exact W.aret (v := va_rf o) hx hb hr hrt (va_rf_or o) (fun t ht hW => ⟨⟨o, u, rfl, hp, by rw [hw, ht]; exact hP, by rw [hw]; exact hD⟩, hS.F ht⟩) hS.2.2 hdg hlk
theorem he_copy (hexec : p.tables.exec = Jvm.exec) (hb : c.code = cc) (hml : c.maxLocals = ls.size) {own : String} {index : Nat} (hown : s.vm.findClass own = some m.cls) (hlink : (Cond.methodLink own index arraycopyName).before args s = true) (hnat : (Cond.native arraycopyName).before args s = true) (hstat : (Cond.static arraycopyName).before args s = true) (hini : (Cond.initialized "java/lang/System").before args s = true)
    (hK : va_K g.1 vwCl (he_ty g) s) (hP : va_P g.1 vwCl ws H) (hD : va_D A ws) (hS : va_S A s.heap H locs) (q0 q1 : Nat) {a0 a n0 n1 : Nat} {f0 f1 : Nat → Int32} (ha0 : ws[q0]? = some (a0, .inl (g.2 1, n0, .inl f0))) (ha1 : ws[q1]? = some (a, .inl (g.2 1, n1, .inl f1)))
    {i j k : Int32} (sp dp n : Nat) (hi : i = nI sp) (hj : j = nI dp) (hk : k = nI n) (h1 : sp + n ≤ n0) (h2 : dp + n ≤ n1) (hn0 : n0 < 2147483648) (hn1 : n1 < 2147483648)
    (hframes : 1 ≤ R.frames) (hlocals : (rest.map fun v => v.category).sum + (nativeFrameWords "java/lang/System" "arraycopy" 5 + 11) ≤ R.locals) (hdg : decode cc pc = .ok (.invokestatic index, 3))
    (kk : ∀ (H1 : Heap) (locs1 : List Loc), va_P g.1 vwCl (ws.set q1 (a, .inl (g.2 1, n1, .inl (va_cpy f0 f1 sp dp n)))) H1 → va_D A (ws.set q1 (a, .inl (g.2 1, n1, .inl (va_cpy f0 f1 sp dp n)))) → va_S A s.heap H1 locs1 → W p l e R s m args below meth c H1 locs1 cells slots Q (F0 m (pc + 3) ls rest)) : W p l e R s m args below meth c H locs cells slots Q (F0 m pc ls (.int k :: .int j :: .ref a :: .int i :: .ref a0 :: rest)) := by
  subst hi hj hk
  have e1 : (nI sp).toNatClampNeg = sp := nI_clamp (by omega)
  have e2 : (nI dp).toNatClampNeg = dp := nI_clamp (by omega)
  have e3 : (nI n).toNatClampNeg = n := nI_clamp (by omega)
  refine va_copyi hexec hb hml hown hlink hnat hstat hini hK hP hD hS q0 q1 1 1 ha0 ha1 rfl rfl rfl (nI_pos (by omega)) (nI_pos (by omega)) (nI_pos (by omega)) (by rw [e1, e3]; exact h1) (by rw [e2, e3]; exact h2) (fun _ _ => rfl) hframes hlocals hdg ?_
  rw [e1, e2, e3]
  exact kk
theorem he_top {x : Int32} (v : Int32) (h : x = v) (k : W p l e R s m args below meth c H locs cells slots Q (F0 m pc ls (.int v :: rest))) : W p l e R s m args below meth c H locs cells slots Q (F0 m pc ls (.int x :: rest)) := by subst h; exact k
theorem he_topl {x : Int64} (v : Int64) (h : x = v) (k : W p l e R s m args below meth c H locs cells slots Q (F0 m pc ls (.long v :: rest))) : W p l e R s m args below meth c H locs cells slots Q (F0 m pc ls (.long x :: rest)) := by subst h; exact k
theorem he_iald (hexec : p.tables.exec = Jvm.exec) (hb : c.code = cc) (hK : va_K g.1 vwCl (he_ty g) s) (hP : va_P g.1 vwCl ws H) (q0 : Nat) {a n : Nat} {f : Nat → Int32} (ha : ws[q0]? = some (a, .inl (g.2 1, n, .inl f))) {i : Int32} (k : Nat) (hi : i = nI k) (hk : k < n) (hn : n < 2147483648) (v : Int32) (hv : f k = v) (hdg : decode cc pc = .ok (.iaload, 1))
    (kk : W p l e R s m args below meth c H locs cells slots Q (F0 m (pc + 1) ls (.int v :: rest))) : W p l e R s m args below meth c H locs cells slots Q (F0 m pc ls (.int i :: .ref a :: rest)) := by
  obtain ⟨h1, h2⟩ := he_in hi hk hn
  refine va_iald hexec hb hK hP q0 1 ha rfl h1 hdg ?_
  rw [h2, hv]
  exact kk
theorem he_bald (hexec : p.tables.exec = Jvm.exec) (hb : c.code = cc) (hK : va_K g.1 vwCl (he_ty g) s) (hP : va_P g.1 vwCl ws H) (q0 : Nat) {a n : Nat} {f : Nat → Int32} (ha : ws[q0]? = some (a, .inl (g.2 0, n, .inl f))) {i : Int32} (k : Nat) (hi : i = nI k) (hk : k < n) (hn : n < 2147483648) (v : Int32) (hv : f k = v) (hdg : decode cc pc = .ok (.baload, 1))
    (kk : W p l e R s m args below meth c H locs cells slots Q (F0 m (pc + 1) ls (.int v :: rest))) : W p l e R s m args below meth c H locs cells slots Q (F0 m pc ls (.int i :: .ref a :: rest)) := by
  obtain ⟨h1, h2⟩ := he_in hi hk hn
  refine va_bald hexec hb hK hP q0 0 ha rfl h1 hdg ?_
  rw [h2, hv]
  exact kk
theorem he_iast (hexec : p.tables.exec = Jvm.exec) (hb : c.code = cc) (hK : va_K g.1 vwCl (he_ty g) s) (hP : va_P g.1 vwCl ws H) (hD : va_D A ws) (hS : va_S A s.heap H locs) (q0 : Nat) {a n : Nat} {f : Nat → Int32} (ha : ws[q0]? = some (a, .inl (g.2 1, n, .inl f))) {i : Int32} (k : Nat) (hi : i = nI k) (hk : k < n) (hn : n < 2147483648) {x : Int32} (hdg : decode cc pc = .ok (.iastore, 1))
    (kk : ∀ (H1 : Heap) (locs1 : List Loc), va_P g.1 vwCl (ws.set q0 (a, .inl (g.2 1, n, .inl (upd f k x)))) H1 → va_D A (ws.set q0 (a, .inl (g.2 1, n, .inl (upd f k x)))) → va_S A s.heap H1 locs1 → W p l e R s m args below meth c H1 locs1 cells slots Q (F0 m (pc + 1) ls rest)) : W p l e R s m args below meth c H locs cells slots Q (F0 m pc ls (.int x :: .int i :: .ref a :: rest)) := by
  obtain ⟨h1, h2⟩ := he_in hi hk hn
  refine va_iast hexec hb hK hP hD hS q0 1 ha rfl h1 hdg ?_
  rw [h2]
  exact kk
theorem he_bast (hexec : p.tables.exec = Jvm.exec) (hb : c.code = cc) (hK : va_K g.1 vwCl (he_ty g) s) (hP : va_P g.1 vwCl ws H) (hD : va_D A ws) (hS : va_S A s.heap H locs) (q0 : Nat) {a n : Nat} {f : Nat → Int32} (ha : ws[q0]? = some (a, .inl (g.2 0, n, .inl f))) {i : Int32} (k : Nat) (hi : i = nI k) (hk : k < n) (hn : n < 2147483648) {x : Int32} (hdg : decode cc pc = .ok (.bastore, 1))
    (kk : ∀ (H1 : Heap) (locs1 : List Loc), va_P g.1 vwCl (ws.set q0 (a, .inl (g.2 0, n, .inl (upd f k (vp_nar .byte x))))) H1 → va_D A (ws.set q0 (a, .inl (g.2 0, n, .inl (upd f k (vp_nar .byte x))))) → va_S A s.heap H1 locs1 → W p l e R s m args below meth c H1 locs1 cells slots Q (F0 m (pc + 1) ls rest)) : W p l e R s m args below meth c H locs cells slots Q (F0 m pc ls (.int x :: .int i :: .ref a :: rest)) := by
  obtain ⟨h1, h2⟩ := he_in hi hk hn
  refine va_bast hexec hb hK hP hD hS q0 0 ha rfl h1 hdg ?_
  rw [h2]
  exact kk
theorem he_aast (hexec : p.tables.exec = Jvm.exec) (hb : c.code = cc) (hK : va_K g.1 vwCl (he_ty g) s) (hP : va_P g.1 vwCl ws H) (hD : va_D A ws) (hS : va_S A s.heap H locs) (q0 t0 qk ci : Nat) {cA : ClassId} {r : vw_C} {a n v : Nat} {vs : List Value} {f : Nat → Option Nat} (ha : ws[q0]? = some (a, .inl (cA, n, .inr (.inr (.inr (.inr f)))))) (ht : (he_ty g)[t0]? = some (cA, .object r.1)) (hv : ws[qk]? = some (v, .inr (ci, vs))) (hc : vwCl[ci]? = some r) {i : Int32} (k : Nat) (hi : i = nI k) (hk : k < n) (hn : n < 2147483648) (hdg : decode cc pc = .ok (.aastore, 1))
    (kk : ∀ (H1 : Heap) (locs1 : List Loc), va_P g.1 vwCl (ws.set q0 (a, .inl (cA, n, .inr (.inr (.inr (.inr (va_up f k (some v)))))))) H1 → va_D A (ws.set q0 (a, .inl (cA, n, .inr (.inr (.inr (.inr (va_up f k (some v)))))))) → va_S A s.heap H1 locs1 → W p l e R s m args below meth c H1 locs1 cells slots Q (F0 m (pc + 1) ls rest)) : W p l e R s m args below meth c H locs cells slots Q (F0 m pc ls (.ref v :: .int i :: .ref a :: rest)) := by
  obtain ⟨h1, h2⟩ := he_in hi hk hn
  refine va_astq hexec hb hK hP hD hS q0 t0 qk ci ha ht hv hc h1 hdg ?_
  rw [h2]
  exact kk
theorem he_tald (hexec : p.tables.exec = Jvm.exec) (hb : c.code = cc) {t N : Nat} {tb : List Int32} (hT : va_T .int t N (he_tab tb) A s s.heap) (hS : va_S A s.heap H locs) {i : Int32} (k : Nat) (hi : i = nI k) (hk : k < N) (hn : N < 2147483648) (v : Int32) (hv : tb.getD k 0 = v) (hdg : decode cc pc = .ok (.iaload, 1))
    (kk : W p l e R s m args below meth c H locs cells slots Q (F0 m (pc + 1) ls (.int v :: rest))) : W p l e R s m args below meth c H locs cells slots Q (F0 m pc ls (.int i :: .ref t :: rest)) := by
  obtain ⟨h1, h2⟩ := he_in hi hk hn
  exact va_ti hexec hb hT hS h1 (v := .int v) (by rw [h2, he_tab, hv]) hdg kk
theorem he_ald (hexec : p.tables.exec = Jvm.exec) (hb : c.code = cc) {C : String} (t0 : Nat) {cA : ClassId} (ht : (he_ty g)[t0]? = some (cA, .object C)) (hK : va_K g.1 vwCl (he_ty g) s) (hP : va_P g.1 vwCl ws H) (q0 : Nat) {a n : Nat} {f : Nat → Option Nat} (ha : ws[q0]? = some (a, .inl (cA, n, .inr (.inr (.inr (.inr f)))))) {i : Int32} (k : Nat) (hi : i = nI k) (hk : k < n) (hn : n < 2147483648) (v : Value) (hv : va_rf (f k) = v) (hdg : decode cc pc = .ok (.aaload, 1))
    (kk : W p l e R s m args below meth c H locs cells slots Q (F0 m (pc + 1) ls (v :: rest))) : W p l e R s m args below meth c H locs cells slots Q (F0 m pc ls (.int i :: .ref a :: rest)) := by
  obtain ⟨h1, h2⟩ := he_in hi hk hn
  refine va_aldq hexec hb hK hP q0 t0 ha ht h1 hdg ?_
  rw [h2, hv]
  exact kk
theorem he_newP (hexec : p.tables.exec = Jvm.exec) (hb : c.code = cc) {own : String} {index : Nat} (hown : s.vm.findClass own = some m.cls) (hclink : (Cond.classLink own index RX5).before args s = true) (hover : va_AO RX5 s) (hK : va_K g.1 vwCl (he_ty g) s) (hP : va_P g.1 vwCl ws H) (hD : va_D A ws) (hS : va_S A s.heap H locs) (hA : ∀ q, s.heap.size ≤ q → A q)
    {n : Int32} (N : Nat) (hn : ¬ n < 0) (hN : n.toNatClampNeg = N) (hbytes : N * 4 ≤ 536870912) (hcells : cells + 1 ≤ R.cells) (hslots : slots + N ≤ R.slots) (hdg : decode cc pc = .ok (.anewarray index, 3))
    (kk : ∀ (q : Nat) (H1 : Heap), va_P g.1 vwCl (ws ++ [(q, .inl (g.2 2, N, .inr (.inr (.inr (.inr (fun _ => none))))))]) H1 → va_D A (ws ++ [(q, .inl (g.2 2, N, .inr (.inr (.inr (.inr (fun _ => none))))))]) → va_S A s.heap H1 locs →
      W p l e R s m args below meth c H1 locs (cells + 1) (slots + N) Q (F0 m (pc + 3) ls (.ref q :: rest))) : W p l e R s m args below meth c H locs cells slots Q (F0 m pc ls (.int n :: rest)) := by
  refine va_newq hexec hb hown hclink hover hK hP hD hS hA hn hN hbytes hcells hslots hdg (fun q cA H1 hK1 hP1 hD1 hS1 => ?_)
  obtain ⟨-, -, -, -, -, h1⟩ := (hK1.2 6 (cA, .object RX5) rfl).2
  obtain ⟨-, -, -, -, -, h2⟩ := (hK.2 2 (g.2 2, .object RX5) rfl).2
  have e : cA = g.2 2 := he_same h1 h2
  rw [e] at hP1 hD1
  exact kk q H1 hP1 hD1 hS1
theorem he_newS (hexec : p.tables.exec = Jvm.exec) (hb : c.code = cc) {own : String} {index : Nat} (hown : s.vm.findClass own = some m.cls) (hclink : (Cond.classLink own index RX8).before args s = true) (hover : va_AO RX8 s) (hK : va_K g.1 vwCl (he_ty g) s) (hP : va_P g.1 vwCl ws H) (hD : va_D A ws) (hS : va_S A s.heap H locs) (hA : ∀ q, s.heap.size ≤ q → A q)
    {n : Int32} (N : Nat) (hn : ¬ n < 0) (hN : n.toNatClampNeg = N) (hbytes : N * 4 ≤ 536870912) (hcells : cells + 1 ≤ R.cells) (hslots : slots + N ≤ R.slots) (hdg : decode cc pc = .ok (.anewarray index, 3))
    (kk : ∀ (q : Nat) (H1 : Heap), va_P g.1 vwCl (ws ++ [(q, .inl (g.2 3, N, .inr (.inr (.inr (.inr (fun _ => none))))))]) H1 → va_D A (ws ++ [(q, .inl (g.2 3, N, .inr (.inr (.inr (.inr (fun _ => none))))))]) → va_S A s.heap H1 locs →
      W p l e R s m args below meth c H1 locs (cells + 1) (slots + N) Q (F0 m (pc + 3) ls (.ref q :: rest))) : W p l e R s m args below meth c H locs cells slots Q (F0 m pc ls (.int n :: rest)) := by
  refine va_newq hexec hb hown hclink hover hK hP hD hS hA hn hN hbytes hcells hslots hdg (fun q cA H1 hK1 hP1 hD1 hS1 => ?_)
  obtain ⟨-, -, -, -, -, h1⟩ := (hK1.2 6 (cA, .object RX8) rfl).2
  obtain ⟨-, -, -, -, -, h2⟩ := (hK.2 3 (g.2 3, .object RX8) rfl).2
  have e : cA = g.2 3 := he_same h1 h2
  rw [e] at hP1 hD1
  exact kk q H1 hP1 hD1 hS1
theorem he_newi (hexec : p.tables.exec = Jvm.exec) (hb : c.code = cc) (harr : (Cond.arrayClass .int).before args s = true) (hK : va_K g.1 vwCl (he_ty g) s) (hP : va_P g.1 vwCl ws H) (hD : va_D A ws) (hS : va_S A s.heap H locs) (hA : ∀ q, s.heap.size ≤ q → A q)
    {n : Int32} (N : Nat) (hn : ¬ n < 0) (hN : n.toNatClampNeg = N) (hbytes : N * componentBytes .int ≤ 536870912) (hcells : cells + 1 ≤ R.cells) (hslots : slots + N ≤ R.slots) (hdg : decode cc pc = .ok (.newarray .int, 2))
    (kk : ∀ (q : Nat) (H1 : Heap), va_P g.1 vwCl (ws ++ [(q, .inl (g.2 1, N, .inl (fun _ => 0)))]) H1 → va_D A (ws ++ [(q, .inl (g.2 1, N, .inl (fun _ => 0)))]) → va_S A s.heap H1 locs →
      W p l e R s m args below meth c H1 locs (cells + 1) (slots + N) Q (F0 m (pc + 2) ls (.ref q :: rest))) : W p l e R s m args below meth c H locs cells slots Q (F0 m pc ls (.int n :: rest)) := by
  refine va_newa (a0 := (N, .inl (fun _ => 0))) hexec hb (atype := .int) harr rfl hK hP hD hS hA (fun cA => rfl) hn hN hbytes hcells hslots hdg (fun q cA H1 hK1 hP1 hD1 hS1 => ?_)
  have h1 := (hK1.2 6 (cA, .int) rfl).2
  have h2 := (hK.2 1 (g.2 1, .int) rfl).2
  have e : cA = g.2 1 := he_same h1 h2
  rw [e] at hP1 hD1
  exact kk q H1 hP1 hD1 hS1
theorem he_newb (hexec : p.tables.exec = Jvm.exec) (hb : c.code = cc) (harr : (Cond.arrayClass .byte).before args s = true) (hK : va_K g.1 vwCl (he_ty g) s) (hP : va_P g.1 vwCl ws H) (hD : va_D A ws) (hS : va_S A s.heap H locs) (hA : ∀ q, s.heap.size ≤ q → A q)
    {n : Int32} (N : Nat) (hn : ¬ n < 0) (hN : n.toNatClampNeg = N) (hbytes : N * componentBytes .byte ≤ 536870912) (hcells : cells + 1 ≤ R.cells) (hslots : slots + N ≤ R.slots) (hdg : decode cc pc = .ok (.newarray .byte, 2))
    (kk : ∀ (q : Nat) (H1 : Heap), va_P g.1 vwCl (ws ++ [(q, .inl (g.2 0, N, .inl (fun _ => 0)))]) H1 → va_D A (ws ++ [(q, .inl (g.2 0, N, .inl (fun _ => 0)))]) → va_S A s.heap H1 locs →
      W p l e R s m args below meth c H1 locs (cells + 1) (slots + N) Q (F0 m (pc + 2) ls (.ref q :: rest))) : W p l e R s m args below meth c H locs cells slots Q (F0 m pc ls (.int n :: rest)) := by
  refine va_newa (a0 := (N, .inl (fun _ => 0))) hexec hb (atype := .byte) harr rfl hK hP hD hS hA (fun cA => rfl) hn hN hbytes hcells hslots hdg (fun q cA H1 hK1 hP1 hD1 hS1 => ?_)
  have h1 := (hK1.2 6 (cA, .byte) rfl).2
  have h2 := (hK.2 0 (g.2 0, .byte) rfl).2
  have e : cA = g.2 0 := he_same h1 h2
  rw [e] at hP1 hD1
  exact kk q H1 hP1 hD1 hS1
theorem he_xv {En : String} {wx : va_W} {a : Array Value} {mc ms : Nat} (hr : vx_Run p l e R s m args below meth c H locs cells slots mc ms (F0 m pc ls st0) rest (he_QTv (va_A wc H.size) a) (he_XC g (va_A wc H.size) En wx) (va_A wc H.size)) (hP : va_P g.1 vwCl ws H) (hD : va_D A ws) (hS : va_S A s.heap H locs) (hA : ∀ q, s.heap.size ≤ q → A q) (isC isR : List Nat) (hC : isC.map (fun i => ws[i]?) = wc.map some) (hR : isR.map (fun i => ws[i]?) = wr.map some) (hn : va_nd isR = true) (hdis : ∀ i ∈ isR, i ∉ isC)
    (kx : ∀ (ce : Cell) (q9 : Addr) (H1 : Heap) (locs1 : List Loc), va_P g.1 vwCl (wr ++ wx) H1 → va_D A (wr ++ wx) → va_S A s.heap H1 locs1 → H1[q9]? = some ce → ce.vm = .none → s.vm.findClass En = some ce.cls → vx_W p l e R s m args below meth c H1 locs1 (cells + mc) (slots + ms) Q (F0 m pc ls rest) q9) : W p l e R s m args below meth c H locs cells slots Q (F0 m pc ls st0) := by
  have hF := va_free hD hS hA isC hC
  refine vx_callv hr hS (fun q _ h => hF q h) hF (fun q _ h => hF q h) (fun E ce q9 u t H1 locs1 ht hvm hp hB hz1 hk1 hS1 hce hcv hcl => ?_) (fun u t H1 locs1 ht hvm hw hB hz1 hk1 hS1 => hw.elim)
  obtain ⟨rfl, hP1, hD1⟩ := hB
  rw [ht] at hP1
  obtain ⟨hP2, hD2⟩ := va_join hP hD isC isR hC hR hn hdis hk1 hF hP1 hD1
  exact kx ce q9 H1 locs1 hP2 hD2 hS1 hce hcv hcl
theorem he_xi {En : String} {wx : va_W} {a : Array Value} {mc ms : Nat} (hr : vx_Run p l e R s m args below meth c H locs cells slots mc ms (F0 m pc ls st0) rest (he_QTi (va_A wc H.size) a) (he_XC g (va_A wc H.size) En wx) (va_A wc H.size)) (hP : va_P g.1 vwCl ws H) (hD : va_D A ws) (hS : va_S A s.heap H locs) (hA : ∀ q, s.heap.size ≤ q → A q) (isC isR : List Nat) (hC : isC.map (fun i => ws[i]?) = wc.map some) (hR : isR.map (fun i => ws[i]?) = wr.map some) (hn : va_nd isR = true) (hdis : ∀ i ∈ isR, i ∉ isC)
    (kx : ∀ (ce : Cell) (q9 : Addr) (H1 : Heap) (locs1 : List Loc), va_P g.1 vwCl (wr ++ wx) H1 → va_D A (wr ++ wx) → va_S A s.heap H1 locs1 → H1[q9]? = some ce → ce.vm = .none → s.vm.findClass En = some ce.cls → vx_W p l e R s m args below meth c H1 locs1 (cells + mc) (slots + ms) Q (F0 m pc ls rest) q9) : W p l e R s m args below meth c H locs cells slots Q (F0 m pc ls st0) := by
  have hF := va_free hD hS hA isC hC
  refine vx_calli hr hS (fun q _ h => hF q h) hF (fun q _ h => hF q h) (fun E ce q9 u t H1 locs1 ht hvm hp hB hz1 hk1 hS1 hce hcv hcl => ?_) (fun r u t H1 locs1 ht hvm hw hB hz1 hk1 hS1 => hw.elim)
  obtain ⟨rfl, hP1, hD1⟩ := hB
  rw [ht] at hP1
  obtain ⟨hP2, hD2⟩ := va_join hP hD isC isR hC hR hn hdis hk1 hF hP1 hD1
  exact kx ce q9 H1 locs1 hP2 hD2 hS1 hce hcv hcl
theorem he_xj {En : String} {wx : va_W} {a : Array Value} {mc ms : Nat} (hr : vx_Run p l e R s m args below meth c H locs cells slots mc ms (F0 m pc ls st0) rest (he_QTj (va_A wc H.size) a) (he_XC g (va_A wc H.size) En wx) (va_A wc H.size)) (hP : va_P g.1 vwCl ws H) (hD : va_D A ws) (hS : va_S A s.heap H locs) (hA : ∀ q, s.heap.size ≤ q → A q) (isC isR : List Nat) (hC : isC.map (fun i => ws[i]?) = wc.map some) (hR : isR.map (fun i => ws[i]?) = wr.map some) (hn : va_nd isR = true) (hdis : ∀ i ∈ isR, i ∉ isC)
    (kx : ∀ (ce : Cell) (q9 : Addr) (H1 : Heap) (locs1 : List Loc), va_P g.1 vwCl (wr ++ wx) H1 → va_D A (wr ++ wx) → va_S A s.heap H1 locs1 → H1[q9]? = some ce → ce.vm = .none → s.vm.findClass En = some ce.cls → vx_W p l e R s m args below meth c H1 locs1 (cells + mc) (slots + ms) Q (F0 m pc ls rest) q9) : W p l e R s m args below meth c H locs cells slots Q (F0 m pc ls st0) := by
  have hF := va_free hD hS hA isC hC
  refine vx_calll hr hS (fun q _ h => hF q h) hF (fun q _ h => hF q h) (fun E ce q9 u t H1 locs1 ht hvm hp hB hz1 hk1 hS1 hce hcv hcl => ?_) (fun r u t H1 locs1 ht hvm hw hB hz1 hk1 hS1 => hw.elim)
  obtain ⟨rfl, hP1, hD1⟩ := hB
  rw [ht] at hP1
  obtain ⟨hP2, hD2⟩ := va_join hP hD isC isR hC hR hn hdis hk1 hF hP1 hD1
  exact kx ce q9 H1 locs1 hP2 hD2 hS1 hce hcv hcl
theorem he_out {En : String} {wx : va_W} {mc ms : Nat} {Qc : Array Value → State → Outcome → State → Prop} {ce : Cell} {q : Addr} (hQ : Q = vx_MQ below Qc (he_XC g A En wx) args s mc ms A) (hlk : meth.locks = false) (hne : ∀ x ∈ c.exceptionTable.toList, False) (hP : va_P g.1 vwCl wx H) (hD : va_D A wx) (hS : va_S A s.heap H locs) (hce : H[q]? = some ce) (hcv : ce.vm = .none) (hcl : s.vm.findClass En = some ce.cls) (hc : cells ≤ mc) (hs : slots ≤ ms) : vx_W p l e R s m args below meth c H locs cells slots Q (F0 m pc ls rest) q := by
  subst hQ
  exact vx_out (fun x hx => (hne x hx).elim) hlk hce hcv hcl (fun t ht hvm => ⟨(), trivial, ⟨rfl, by rw [ht]; exact hP, hD⟩, hS.F ht⟩) hS.2.2 hc hs
theorem he_grow {ws : va_W} {H1 : Heap} (hP : va_P g.1 vwCl ws H) (hq : ∀ q : Nat, q < H.size → H1[q]? = H[q]?) : va_P g.1 vwCl ws H1 := fun k q hk => (hP k q hk).kept (hq q.1 (hP k q hk).lt)
theorem he_thx {En : String} {wx : va_W} (hP : va_P g.1 vwCl wx H) (hD : va_D A wx) (hS : va_S A s.heap H locs) (t : State) (hz : H.size ≤ t.heap.size) (hq : ∀ q : Nat, q < H.size → t.heap[q]? = H[q]?) : he_XC g A En wx En s t :=
  ⟨(), trivial, ⟨rfl, he_grow hP hq, hD⟩, Nat.le_trans hS.1 hz, fun q h1 h2 => by rw [hq q (Nat.lt_of_lt_of_le h1 hS.1)]; exact hS.2.1 q h1 h2⟩
theorem he_hat {own cls : String} {ic : Nat} {names : List String} (hE : he_E g A s s.heap) (h1 : ∀ w ∈ (vx_atS own ic cls names).filter goodWord, w.before args s = true) (h2 : ∀ w ∈ (vx_atS own ic cls names).filter (fun w => !goodWord w), w ∈ he_decl.map Cond.declares ++ he_cast.map (fun q => Cond.castable q.1 q.2)) : ∀ w ∈ vx_atS own ic cls names, w.before args s = true :=
  vx_hat h1 h2 (fun w hw => by
    rcases List.mem_append.mp hw with hw | hw
    · obtain ⟨x, hx, rfl⟩ := List.mem_map.mp hw; exact va_Nw.use rfl (hE.decl x hx)
    · obtain ⟨x, hx, rfl⟩ := List.mem_map.mp hw; exact va_Nw.use rfl (hE.cast x hx))
theorem he_hatL {L : List Cond} (hE : he_E g A s s.heap) (h1 : ∀ w ∈ L.filter goodWord, w.before args s = true) (h2 : ∀ w ∈ L.filter (fun w => !goodWord w), w ∈ he_decl.map Cond.declares ++ he_cast.map (fun q => Cond.castable q.1 q.2)) : ∀ w ∈ L, w.before args s = true :=
  vx_hat h1 h2 (fun w hw => by
    rcases List.mem_append.mp hw with hw | hw
    · obtain ⟨x, hx, rfl⟩ := List.mem_map.mp hw; exact va_Nw.use rfl (hE.decl x hx)
    · obtain ⟨x, hx, rfl⟩ := List.mem_map.mp hw; exact va_Nw.use rfl (hE.cast x hx))
end HEA
section HEB
variable {l : Launch} {g : he_G} {y : MethodName} {wl wl' : List Cond} {cc : ByteArray} {maxL fr lo mc ms : Nat} {av : List Value} {ws : va_W}
/-- what a body starts with -/
abbrev he_B (p : Program) (s : State) (m : MethodId) (args : Array Value) (meth : Method) (c : Code) (A : Nat → Prop) (ls : Array Slot) (H : Heap) (locs : List Loc) (g : he_G) (y : MethodName) (wl : List Cond) (cc : ByteArray) (maxL : Nat) (ret : Option FieldType) (av : List Value) (ws : va_W) : Prop :=
  p.tables.exec = Jvm.exec ∧ c.code = cc ∧ meth.sig.returnType = ret ∧ c.maxLocals = maxL ∧ s.vm.findClass y.cls = some m.cls ∧ (∀ w ∈ wl, w.before args s = true) ∧ meth.locks = false ∧ meth.name = y.name ∧ va_P g.1 vwCl ws H ∧ va_K g.1 vwCl (he_ty g) s ∧ va_D A ws ∧ va_S A s.heap H locs ∧ (∀ q, s.heap.size ≤ q → A q) ∧ he_E g A s s.heap ∧ lv_has ls maxL (lv_args 0 av)
theorem he_begin {ret : Option FieldType} (Qf : (Nat → Prop) → Array Value → State → Outcome → State → Prop) (hy : plainName y.cls = true) (hw : wl = Cond.code y cc maxL ret :: wl') (hav : (lg_sl av).length ≤ maxL)
    (body : ∀ (p : Program) (e : Env) (s : State) (m : MethodId) (args : Array Value) (below : List Frame) (meth : Method) (c : Code) (A : Nat → Prop) (ls : Array Slot) (H : Heap) (locs : List Loc) (Q : State → Prop), Q = MQ below (Qf A) args s mc ms A → he_B p s m args meth c A ls H locs g y wl cc maxL ret av ws →
      W p l e (he_room fr lo mc ms) s m args below meth c H locs 0 0 Q (F0 m 0 ls [])) (sz : Nat) : Met l y wl (he_room fr lo mc ms) (va_Pc av (he_pre g ws sz)) (Qf (va_A ws sz)) mc ms (va_A ws sz) := by
  refine Met.ofW (cc := cc) (maxL := maxL) (ret := ret) hy hw ?_
  intro p e s m args below meth c s₁ B hml hv
  obtain ⟨rfl, hsz, hP, hK, hD0, hE⟩ := hv
  subst hsz
  have hD := hD0.self (sz := s.heap.size)
  have hl := lv_entry av (n := maxL) hav
  rw [lg_entry_eq]
  exact body p e s m _ below meth c (va_A ws s.heap.size) _ _ _ _ rfl ⟨B.exec, B.bytes, B.returns, hml, findClass_of_methodNamed B.named, atoms_spec (ws := wl) B.pre, B.notSynchronized, (name_of_methodNamed B.named B.method).1, hP, hK, hD, va_S.rf, fun q h => Or.inr h, hE, hl⟩
theorem he_beginX {ret : Option FieldType} {En : String} {wx : va_W} (QT : (Nat → Prop) → Array Value → State → Outcome → State → Prop) (hy : plainName y.cls = true) (hw : wl = Cond.code y cc maxL ret :: wl') (hav : (lg_sl av).length ≤ maxL)
    (body : ∀ (p : Program) (e : Env) (s : State) (m : MethodId) (args : Array Value) (below : List Frame) (meth : Method) (c : Code) (A : Nat → Prop) (ls : Array Slot) (H : Heap) (locs : List Loc) (Q : State → Prop), Q = vx_MQ below (QT A) (he_XC g A En wx) args s mc ms A → (∀ x ∈ c.exceptionTable.toList, False) → he_B p s m args meth c A ls H locs g y wl cc maxL ret av ws →
      W p l e (he_room fr lo mc ms) s m args below meth c H locs 0 0 Q (F0 m 0 ls [])) : he_T QT l y wl fr lo mc ms g av ws En wx := by
  intro sz
  refine vx_ofW (cc := cc) (maxL := maxL) (ret := ret) hy hw ?_
  intro p e s m args below meth c s₁ B hml hne hv
  obtain ⟨rfl, hsz, hP, hK, hD0, hE⟩ := hv
  subst hsz
  have hD := hD0.self (sz := s.heap.size)
  have hl := lv_entry av (n := maxL) hav
  rw [lg_entry_eq]
  exact body p e s m _ below meth c (va_A ws s.heap.size) _ _ _ _ rfl hne ⟨B.exec, B.bytes, B.returns, hml, findClass_of_methodNamed B.named, atoms_spec (ws := wl) B.pre, B.notSynchronized, (name_of_methodNamed B.named B.method).1, hP, hK, hD, va_S.rf, fun q h => Or.inr h, hE, hl⟩
end HEB
section HEX
variable {p : Program} {l : Launch} {e : Env} {R : Room} {s : State} {m : MethodId} {args : Array Value} {below : List Frame} {meth : Method} {c : Code} {H : Heap} {locs : List Loc} {cells slots : Nat} {Q : State → Prop} {g : he_G} {A : Nat → Prop} {ws : va_W} {pc : Nat} {ls : Array Slot} {rest : List Value} {cc : ByteArray}
theorem he_tbld (hexec : p.tables.exec = Jvm.exec) (hb : c.code = cc) {t N : Nat} {tb : List Int32} (hT : va_T .byte t N (he_tab tb) A s s.heap) (hS : va_S A s.heap H locs) {i : Int32} (k : Nat) (hi : i = nI k) (hk : k < N) (hn : N < 2147483648) (v : Int32) (hv : tb.getD k 0 = v) (hdg : decode cc pc = .ok (.baload, 1))
    (kk : W p l e R s m args below meth c H locs cells slots Q (F0 m (pc + 1) ls (.int v :: rest))) : W p l e R s m args below meth c H locs cells slots Q (F0 m pc ls (.int i :: .ref t :: rest)) := by
  obtain ⟨h1, h2⟩ := he_in hi hk hn
  exact va_tb hexec hb hT hS h1 (v := .int v) (by rw [h2, he_tab, hv]) hdg kk
theorem he_preO {wc : va_W} (hK : va_K g.1 vwCl (he_ty g) s) (hP : va_P g.1 vwCl ws H) (hD : va_D A ws) (hS : va_S A s.heap H locs) (hA : ∀ q, s.heap.size ≤ q → A q) (hE : he_E g A s s.heap) (isC : List Nat) (hC : isC.map (fun i => ws[i]?) = wc.map some) (hnd : va_nd isC = true) {b : Nat} {C : String} (hO : va_O C b A s s.heap) {av : List Value} : PreV s H C b (va_Pc (.ref b :: av) (he_pre g wc H.size)) av := ⟨he_fb, (by obtain ⟨cell, h1, h2, h3, -⟩ := hO.kept hS.2.1; exact ⟨cell, h1, h2, h3⟩), fun U hU hW => ⟨rfl, he_preX hK hP hD hS hA hE isC hC hnd U hU hW⟩⟩
/-- a short number is given back -/
theorem he_rn {S : Type} {post : Int32 → S → Prop} {w1 : S → va_W} {mc ms : Nat} {v : Int32} {ty : FieldType} {ws1 : va_W} (hQ : Q = MQ below (va_Qi post (fun u t => he_post g A (w1 u) t) A) args s mc ms A) (hx : p.tables.exec = Jvm.exec) (hb : c.code = cc) (hr : meth.sig.returnType = some ty) (hlk : meth.locks = false) (hP : va_P g.1 vwCl ws1 H) (hD : va_D A ws1) (hS : va_S A s.heap H locs) (hdg : decode cc pc = .ok (.ireturn, 1)) (hc : cells ≤ mc) (hs : slots ≤ ms) (hn : narrow ty (.int v) = .int v) (u : S) (hw : w1 u = ws1) (hp : post v u) : W p l e R s m args below meth c H locs cells slots Q (F0 m pc ls [.int v]) := by
  subst hQ
  refine W.widen (k := mc) (n := ms) hc hs ?_
  exact W.zret (v := v) hx hb hr hn (fun t ht hW => ⟨⟨v, u, rfl, hp, by rw [hw, ht]; exact hP, by rw [hw]; exact hD⟩, hS.F ht⟩) hS.2.2 hdg hlk
end HEX
end
section
/-! cells: objects by their fields, arrays by their contents -/
abbrev oX0 (a : Nat) (v0 : Nat) : Nat × va_E := (a, .inr (0, [.ref v0]))
abbrev oX1 (a : Nat) (v0 : Nat) (v1 : Nat) (v2 : Nat) (v3 : Int32) (v4 : Int32) : Nat × va_E := (a, .inr (1, [.ref v0, .ref v1, .ref v2, .int v3, .int v4]))
abbrev oX2 (a : Nat) (v0 : Nat) (v1 : Nat) (v2 : Int32) (v3 : Int32) (v4 : Int64) (v5 : Int64) (v6 : Int32) : Nat × va_E := (a, .inr (2, [.ref v0, .ref v1, .int v2, .int v3, .long v4, .long v5, .int v6]))
abbrev oX3 (a : Nat) (v0 : Nat) (v1 : Nat) : Nat × va_E := (a, .inr (3, [.ref v0, .ref v1]))
abbrev oX4 (a : Nat) (v0 : Nat) (v1 : Nat) (v2 : Int32) : Nat × va_E := (a, .inr (4, [.ref v0, .ref v1, .int v2]))
abbrev oX5 (a : Nat) (v0 : Nat) (v1 : Nat) (v2 : Int32) : Nat × va_E := (a, .inr (5, [.ref v0, .ref v1, .int v2]))
abbrev oX6 (a : Nat) (v0 : Nat) (v1 : Nat) (v2 : Nat) (v3 : Nat) (v4 : Int32) : Nat × va_E := (a, .inr (6, [.ref v0, .ref v1, .ref v2, .ref v3, .int v4]))
abbrev oX7 (a : Nat) (v0 : Nat) (v1 : Int32) (v2 : Int32) (v3 : Int32) (v4 : Int32) (v5 : Nat) : Nat × va_E := (a, .inr (7, [.ref v0, .int v1, .int v2, .int v3, .int v4, .ref v5]))
abbrev oX8 (a : Nat) (v0 : Nat) (v1 : Nat) (v2 : Nat) (v3 : Nat) : Nat × va_E := (a, .inr (8, [.ref v0, .ref v1, .ref v2, .ref v3]))
abbrev oX10 (a : Nat) (v0 : Nat) (v1 : Int32) (v2 : Nat) (v3 : Nat) (v4 : Nat) (v5 : Nat) (v6 : Int32) (v7 : Nat) (v8 : Nat) (v9 : Int32) (v10 : Nat) (v11 : Nat) (v12 : Nat) : Nat × va_E := (a, .inr (9, [.ref v0, .int v1, .ref v2, .ref v3, .ref v4, .ref v5, .int v6, .ref v7, .ref v8, .int v9, .ref v10, .ref v11, .ref v12]))
abbrev oX11 (a : Nat) (v0 : Int32) (v1 : Int32) (v2 : Int32) (v3 : Int32) (v4 : Int32) (v5 : Int32) (v6 : Int32) (v7 : Int32) (v8 : Nat) (v9 : Nat) (v10 : Nat) (v11 : Nat) (v12 : Nat) (v13 : Nat) (v14 : Int32) (v15 : Nat) (v16 : Nat) (v17 : Nat) (v18 : Nat) (v19 : Nat) (v20 : Nat) (v21 : Nat) (v22 : Nat) (v23 : Int32) (v24 : Int32) (v25 : Int32) (v26 : Int32) (v27 : Int32) (v28 : Int32) (v29 : Nat) (v30 : Nat) (v31 : Nat) (v32 : Nat) (v33 : Int32) (v34 : Nat) : Nat × va_E := (a, .inr (10, [.int v0, .int v1, .int v2, .int v3, .int v4, .int v5, .int v6, .int v7, .ref v8, .ref v9, .ref v10, .ref v11, .ref v12, .ref v13, .int v14, .ref v15, .ref v16, .ref v17, .ref v18, .ref v19, .ref v20, .ref v21, .ref v22, .int v23, .int v24, .int v25, .int v26, .int v27, .int v28, .ref v29, .ref v30, .ref v31, .ref v32, .int v33, .ref v34]))
abbrev aB (g : he_G) (a n : Nat) (f : Nat → Int32) : Nat × va_E := (a, .inl (g.2 0, n, .inl f))
abbrev aI (g : he_G) (a n : Nat) (f : Nat → Int32) : Nat × va_E := (a, .inl (g.2 1, n, .inl f))
abbrev aP (g : he_G) (a n : Nat) (f : Nat → Option Nat) : Nat × va_E := (a, .inl (g.2 2, n, .inr (.inr (.inr (.inr f)))))
abbrev aS (g : he_G) (a n : Nat) (f : Nat → Option Nat) : Nat × va_E := (a, .inl (g.2 3, n, .inr (.inr (.inr (.inr f)))))
abbrev aM (g : he_G) (a n : Nat) (f : Nat → Option Nat) : Nat × va_E := (a, .inl (g.2 4, n, .inr (.inr (.inr (.inr f)))))
abbrev aL (g : he_G) (a n : Nat) (f : Nat → Int64) : Nat × va_E := (a, .inl (g.2 5, n, .inr (.inl f)))
end
section
/-! a pool of int arrays behind the listed cells: the rows of the reference's tables -/
def he_f (g : he_G) (ln : Nat → Nat) (M : Nat → Nat → Int32) : Nat → va_E := fun a => .inl (g.2 1, ln a, .inl (M a))
abbrev he_pl (g : he_G) (L : List Nat) (ln : Nat → Nat) (M : Nat → Nat → Int32) : va_W := va_pl L (he_f g ln M)
def he_ro (n : Nat) (r : Nat → Nat) : Nat → Option Nat := fun i => if i < n then some (r i) else none
def he_is (isX : List Nat) (X P : va_W) : List Nat := isX ++ (List.range P.length).map (fun i => i + X.length)
theorem he_ixP {X P wcX : va_W} {isX : List Nat} (h : isX.map (fun i => X[i]?) = wcX.map some) : (he_is isX X P).map (fun i => (X ++ P)[i]?) = (wcX ++ P).map some := by
  unfold he_is
  rw [List.map_append, List.map_append]
  congr 1
  · rw [← h]
    apply List.map_congr_left
    intro i hi
    have h1 : X[i]? ∈ isX.map (fun i => X[i]?) := List.mem_map.mpr ⟨i, hi, rfl⟩
    rw [h] at h1
    obtain ⟨y, -, hy⟩ := List.mem_map.mp h1
    have hlt : i < X.length := by
      rcases Nat.lt_or_ge i X.length with q | q
      · exact q
      · rw [List.getElem?_eq_none q] at hy; cases hy
    exact List.getElem?_append_left hlt
  · rw [List.map_map]
    apply List.ext_getElem?
    intro k
    simp only [List.getElem?_map]
    rcases Nat.lt_or_ge k P.length with q | q
    · rw [List.getElem?_range q]
      simp only [Option.map_some, Function.comp]
      rw [List.getElem?_append_right (by omega), show k + X.length - X.length = k by omega, List.getElem?_eq_getElem q]
      rfl
    · rw [List.getElem?_eq_none (by simpa using q), List.getElem?_eq_none q]
      rfl
theorem he_nd_iff : ∀ l : List Nat, va_nd l = true ↔ l.Nodup := by
  intro l
  induction l with
  | nil => simp [va_nd]
  | cons a r ih => simp [va_nd, ih]
theorem he_ndP {X P : va_W} {isX : List Nat} (h : va_nd isX = true) (hl : isX.all (fun i => decide (i < X.length)) = true) : va_nd (he_is isX X P) = true := by
  rw [he_nd_iff] at h ⊢
  unfold he_is
  rw [List.nodup_append]
  refine ⟨h, ?_, ?_⟩
  · refine List.Pairwise.map _ ?_ (List.nodup_range (n := P.length))
    intro a b hab h9
    exact hab (by omega)
  · intro a ha b hb e
    subst e
    have h1 : a < X.length := by simpa using List.all_eq_true.mp hl a ha
    obtain ⟨c, -, hc⟩ := List.mem_map.mp hb
    omega
theorem he_disP {X P : va_W} {isX isR : List Nat} (h : ∀ i ∈ isR, i ∉ isX) (hl : isR.all (fun i => decide (i < X.length)) = true) : ∀ i ∈ isR, i ∉ he_is isX X P := by
  intro i hi h9
  unfold he_is at h9
  rcases List.mem_append.mp h9 with q | q
  · exact h i hi q
  · have h1 : i < X.length := by simpa using List.all_eq_true.mp hl i hi
    obtain ⟨c, -, hc⟩ := List.mem_map.mp q
    omega
theorem he_disN {X P : va_W} {isX isR : List Nat} (h : ∀ i ∈ isR, i ∉ isX) (hl : isX.all (fun i => decide (i < X.length)) = true) : ∀ i ∈ he_is isR X P, i ∉ isX := by
  intro i hi h9
  unfold he_is at hi
  rcases List.mem_append.mp hi with q | q
  · exact h i q h9
  · have h1 : i < X.length := by simpa using List.all_eq_true.mp hl i h9
    obtain ⟨c, -, hc⟩ := List.mem_map.mp q
    omega
theorem he_fm {X X2 : va_W} {is : List Nat} (h : is.map (fun i => X[i]?) = X2.map some) : is.filterMap (fun i => X[i]?) = X2 := by
  have h1 := congrArg (fun l => l.filterMap id) h
  simpa [List.filterMap_map, Function.comp_def] using h1
theorem he_Psub {D : va_G} {cl : List vw_C} {H : Heap} {X X2 P : va_W} (hP : va_P D cl (X ++ P) H) (isX : List Nat) (h : isX.map (fun i => X[i]?) = X2.map some) : va_P D cl (X2 ++ P) H := hP.sub (he_is isX X P) (he_fm (he_ixP h))
theorem he_Dsub {A : Nat → Prop} {X X2 P : va_W} (hD : va_D A (X ++ P)) (isX : List Nat) (h : isX.map (fun i => X[i]?) = X2.map some) (hn : va_nd isX = true) (hl : isX.all (fun i => decide (i < X.length)) = true) : va_D A (X2 ++ P) := hD.sub (he_is isX X P) (he_ndP hn hl) (he_ixP h)
theorem he_lift {L L1 : List Nat} {ln ln1 : Nat → Nat} {M M1 : Nat → Nat → Int32} {a K : Nat} {z : Nat → Int32} (k9 : ∀ a, a ∈ L → a ∈ L1 ∧ ln1 a = ln a ∧ M1 a = M a) (h : a ∈ L ∧ ln a = K ∧ M a = z) : a ∈ L1 ∧ ln1 a = K ∧ M1 a = z := by
  obtain ⟨h1, h2, h3⟩ := h
  obtain ⟨a1, a2, a3⟩ := k9 a h1
  exact ⟨a1, by rw [a2, h2], by rw [a3, h3]⟩
section HEC
variable {p : Program} {l : Launch} {e : Env} {R : Room} {s : State} {m : MethodId} {args : Array Value} {below : List Frame} {meth : Method} {c : Code} {H : Heap} {locs : List Loc} {cells slots : Nat} {Q : State → Prop} {g : he_G} {A : Nat → Prop} {ws X : va_W} {pc : Nat} {ls : Array Slot} {rest : List Value} {cc : ByteArray} {L : List Nat} {ln : Nat → Nat} {M : Nat → Nat → Int32}
theorem he_aldm (hexec : p.tables.exec = Jvm.exec) (hb : c.code = cc) (hK : va_K g.1 vwCl (he_ty g) s) (hP : va_P g.1 vwCl ws H) (q0 : Nat) {a n : Nat} {r : Nat → Nat} (ha : ws[q0]? = some (a, .inl (g.2 4, n, .inr (.inr (.inr (.inr (he_ro n r))))))) {i : Int32} (k : Nat) (hi : i = nI k) (hk : k < n) (hn : n < 2147483648) (hdg : decode cc pc = .ok (.aaload, 1))
    (kk : W p l e R s m args below meth c H locs cells slots Q (F0 m (pc + 1) ls (.ref (r k) :: rest))) : W p l e R s m args below meth c H locs cells slots Q (F0 m pc ls (.int i :: .ref a :: rest)) := by
  obtain ⟨h1, h2⟩ := he_in hi hk hn
  refine W.aald (v := .ref (r k)) (ty := .array .int) hexec hb (hP q0 _ ha) ((hK.2 4 _ rfl).1 n (fun j => va_rf (he_ro n r j))) rfl (fun q => by cases q) (by show ¬ (i < 0 ∨ (arrV _ _ _).slots.size ≤ _); rw [arrV_size]; exact h1) (by show (arrV _ _ _).slots[_]? = _; rw [h2, arrV_read _ _ hk]; simp [he_ro, hk, va_rf]) rfl rfl hdg kk
theorem he_pald (hexec : p.tables.exec = Jvm.exec) (hb : c.code = cc) (hK : va_K g.1 vwCl (he_ty g) s) (hP : va_P g.1 vwCl (X ++ he_pl g L ln M) H) {a : Nat} (ha : a ∈ L) {i : Int32} (k : Nat) (hi : i = nI k) (hk : k < ln a) (hn : ln a < 2147483648) (v : Int32) (hv : M a k = v) (hdg : decode cc pc = .ok (.iaload, 1))
    (kk : W p l e R s m args below meth c H locs cells slots Q (F0 m (pc + 1) ls (.int v :: rest))) : W p l e R s m args below meth c H locs cells slots Q (F0 m pc ls (.int i :: .ref a :: rest)) := by
  obtain ⟨q0, hq⟩ := va_pl_get (X := X) (f := he_f g ln M) ha
  exact he_iald hexec hb hK hP q0 (n := ln a) (f := M a) hq k hi hk hn v hv hdg kk
theorem he_past (hexec : p.tables.exec = Jvm.exec) (hb : c.code = cc) (hK : va_K g.1 vwCl (he_ty g) s) (hP : va_P g.1 vwCl (X ++ he_pl g L ln M) H) (hD : va_D A (X ++ he_pl g L ln M)) (hS : va_S A s.heap H locs) {a : Nat} (ha : a ∈ L) {i : Int32} (k : Nat) (hi : i = nI k) (hk : k < ln a) (hn : ln a < 2147483648) {x : Int32} (hdg : decode cc pc = .ok (.iastore, 1))
    (kk : ∀ (H1 : Heap) (locs1 : List Loc), va_P g.1 vwCl (X ++ he_pl g L ln (va_up M a (upd (M a) k x))) H1 → va_D A (X ++ he_pl g L ln (va_up M a (upd (M a) k x))) → va_S A s.heap H1 locs1 → W p l e R s m args below meth c H1 locs1 cells slots Q (F0 m (pc + 1) ls rest)) : W p l e R s m args below meth c H locs cells slots Q (F0 m pc ls (.int x :: .int i :: .ref a :: rest)) := by
  obtain ⟨q0, hq⟩ := va_pl_get (X := X) (f := he_f g ln M) ha
  refine he_iast hexec hb hK hP hD hS q0 (n := ln a) (f := M a) hq k hi hk hn hdg (fun H1 locs1 hP1 hD1 hS1 => ?_)
  have e1 : (X ++ he_pl g L ln M).set q0 (a, .inl (g.2 1, ln a, .inl (upd (M a) k x))) = X ++ he_pl g L ln (va_up M a (upd (M a) k x)) := by
    rw [va_pl_set hD ha hq]
    congr 1
    apply va_pl_congr
    intro b
    unfold va_up he_f
    by_cases h9 : b = a
    · subst h9; simp
    · simp [h9]
  rw [e1] at hP1 hD1
  exact kk H1 locs1 hP1 hD1 hS1
/-- new int[N][K] -/
theorem he_mna (hexec : p.tables.exec = Jvm.exec) (hb : c.code = cc) {own : String} {index : Nat} (hown : s.vm.findClass own = some m.cls) (hclink : (Cond.classLink own index "[[I").before args s = true) (hover : va_AOA .int s) (harr : (Cond.arrayClass .int).before args s = true) (hK : va_K g.1 vwCl (he_ty g) s) (hP : va_P g.1 vwCl (X ++ he_pl g L ln M) H) (hD : va_D A (X ++ he_pl g L ln M)) (hS : va_S A s.heap H locs) (hA : ∀ q, s.heap.size ≤ q → A q) {n k : Int32} (N K : Nat) (hn : ¬ n < 0) (hk : ¬ k < 0) (hN : n.toNatClampNeg = N) (hM : k.toNatClampNeg = K)
    (hb1 : N * 4 ≤ 536870912) (hb2 : K * 4 ≤ 536870912) (hb3 : K ≤ 536870912) (hcells : cells + (1 + N) ≤ R.cells) (hslots : slots + (N + N * K) ≤ R.slots) (hdg : decode cc pc = .ok (.multianewarray index 2, 4))
    (kk : ∀ (q : Nat) (r : Nat → Nat) (L1 : List Nat) (ln1 : Nat → Nat) (M1 : Nat → Nat → Int32) (H1 : Heap), (∀ a, a ∈ L → a ∈ L1 ∧ ln1 a = ln a ∧ M1 a = M a) → (∀ i, i < N → r i ∈ L1 ∧ ln1 (r i) = K ∧ M1 (r i) = fun _ => 0) → (∀ i, i < N → r i ∉ L) → (∀ i j, i < N → j < N → r i = r j → i = j) →
      va_P g.1 vwCl ((X ++ [(q, .inl (g.2 4, N, .inr (.inr (.inr (.inr (he_ro N r))))))]) ++ he_pl g L1 ln1 M1) H1 → va_D A ((X ++ [(q, .inl (g.2 4, N, .inr (.inr (.inr (.inr (he_ro N r))))))]) ++ he_pl g L1 ln1 M1) → va_S A s.heap H1 locs →
      W p l e R s m args below meth c H1 locs (cells + 1 + N) (slots + N + N * K) Q (F0 m (pc + 4) ls (.ref q :: rest))) : W p l e R s m args below meth c H locs cells slots Q (F0 m pc ls (.int k :: .int n :: rest)) := by
  have hcy : s.vm.findClass (FieldType.array .int).toString = some (g.2 1) := (hK.2 1 (g.2 1, .int) rfl).2
  refine va_mna (z := (K, .inl (fun _ => 0))) hexec hb hown hclink hover harr hcy hK hP hD hS hA hn hk hN hM hb1 hb2 hb3 rfl rfl hcells hslots (fun cA => by show ({ cls := cA, slots := Array.replicate K (.int 0), vm := .none } : Cell) = _; rw [arrV_new]; rfl) hdg (fun q r cA H1 hinj hfr hK1 hP1 hD1 hS1 => ?_)
  have h1 := (hK1.2 6 (cA, .array .int) rfl).2
  have h2 := (hK.2 4 (g.2 4, .array .int) rfl).2
  have e : cA = g.2 4 := he_same h1 h2
  subst e
  have e2 : va_pl (L ++ (List.range N).map r) (vr_up (he_f g ln M) ((List.range N).map r) (.inl (g.2 1, K, .inl (fun _ => 0)))) = he_pl g (L ++ (List.range N).map r) (vr_up ln ((List.range N).map r) K) (vr_up M ((List.range N).map r) (fun _ => 0)) := by
    apply va_pl_congr
    intro b
    unfold vr_up he_f
    by_cases h9 : b ∈ (List.range N).map r
    · simp only [if_pos h9]
    · simp only [if_neg h9]
  rw [e2] at hP1 hD1
  refine kk q r _ _ _ H1 (fun a ha => ?_) (fun i hi => ?_) hfr hinj hP1 hD1 hS1
  · have h9 : a ∉ (List.range N).map r := by
      intro h
      obtain ⟨i, hi, rfl⟩ := List.mem_map.mp h
      exact hfr i (List.mem_range.mp hi) ha
    exact ⟨List.mem_append_left _ ha, vr_up_ne h9, vr_up_ne h9⟩
  · have h9 : r i ∈ (List.range N).map r := List.mem_map.mpr ⟨i, List.mem_range.mpr hi, rfl⟩
    exact ⟨List.mem_append_right _ h9, vr_up_in h9, vr_up_in h9⟩
end HEC
end
section
/-! tools for the law: methods with an exception table, the row of one long, the script -/
section HLA
variable {p : Program} {l : Launch} {e : Env} {R : Room} {s : State} {m : MethodId} {args : Array Value} {below : List Frame} {meth : Method} {c : Code} {H : Heap} {locs : List Loc} {cells slots : Nat} {Q : State → Prop} {g : he_G} {A : Nat → Prop} {ws wc wr : va_W} {pc : Nat} {ls : Array Slot} {rest st0 : List Value} {cc : ByteArray}
theorem he_last (hexec : p.tables.exec = Jvm.exec) (hb : c.code = cc) (hK : va_K g.1 vwCl (he_ty g) s) (hP : va_P g.1 vwCl ws H) (hD : va_D A ws) (hS : va_S A s.heap H locs) (q0 : Nat) {a n : Nat} {f : Nat → Int64} (ha : ws[q0]? = some (a, .inl (g.2 5, n, .inr (.inl f)))) {i : Int32} (k : Nat) (hi : i = nI k) (hk : k < n) (hn : n < 2147483648) {x : Int64} (hdg : decode cc pc = .ok (.lastore, 1))
    (kk : ∀ (H1 : Heap) (locs1 : List Loc), va_P g.1 vwCl (ws.set q0 (a, .inl (g.2 5, n, .inr (.inl (vp_updL f k x))))) H1 → va_D A (ws.set q0 (a, .inl (g.2 5, n, .inr (.inl (vp_updL f k x))))) → va_S A s.heap H1 locs1 → W p l e R s m args below meth c H1 locs1 cells slots Q (F0 m (pc + 1) ls rest)) : W p l e R s m args below meth c H locs cells slots Q (F0 m pc ls (.long x :: .int i :: .ref a :: rest)) := by
  obtain ⟨h1, h2⟩ := he_in hi hk hn
  refine va_last hexec hb hK hP hD hS q0 5 ha rfl h1 hdg ?_
  rw [h2]
  exact kk
theorem he_newl (hexec : p.tables.exec = Jvm.exec) (hb : c.code = cc) (harr : (Cond.arrayClass .long).before args s = true) (hK : va_K g.1 vwCl (he_ty g) s) (hP : va_P g.1 vwCl ws H) (hD : va_D A ws) (hS : va_S A s.heap H locs) (hA : ∀ q, s.heap.size ≤ q → A q)
    {n : Int32} (N : Nat) (hn : ¬ n < 0) (hN : n.toNatClampNeg = N) (hbytes : N * componentBytes .long ≤ 536870912) (hcells : cells + 1 ≤ R.cells) (hslots : slots + N ≤ R.slots) (hdg : decode cc pc = .ok (.newarray .long, 2))
    (kk : ∀ (q : Nat) (H1 : Heap), va_P g.1 vwCl (ws ++ [(q, .inl (g.2 5, N, .inr (.inl (fun _ => 0))))]) H1 → va_D A (ws ++ [(q, .inl (g.2 5, N, .inr (.inl (fun _ => 0))))]) → va_S A s.heap H1 locs →
      W p l e R s m args below meth c H1 locs (cells + 1) (slots + N) Q (F0 m (pc + 2) ls (.ref q :: rest))) : W p l e R s m args below meth c H locs cells slots Q (F0 m pc ls (.int n :: rest)) := by
  refine va_newa (a0 := (N, .inr (.inl (fun _ => 0)))) hexec hb (atype := .long) harr rfl hK hP hD hS hA (fun cA => rfl) hn hN hbytes hcells hslots hdg (fun q cA H1 hK1 hP1 hD1 hS1 => ?_)
  have h1 := (hK1.2 6 (cA, .long) rfl).2
  have h2 := (hK.2 5 (g.2 5, .long) rfl).2
  have e : cA = g.2 5 := he_same h1 h2
  rw [e] at hP1 hD1
  exact kk q H1 hP1 hD1 hS1
theorem he_sld (hexec : p.tables.exec = Jvm.exec) (hb : c.code = cc) {b L : Nat} {xs : Nat → Int32} (hX : va_X b L xs s s.heap) (hbl : b < s.heap.size) (hbA : ¬ A b) (hS : va_S A s.heap H locs) {i : Int32} (k : Nat) (hi : i = nI k) (hk : k < L) (hL : L < 2147483648) (v : Int32) (hv : xs k = v) (hdg : decode cc pc = .ok (.iaload, 1))
    (kk : W p l e R s m args below meth c H locs cells slots Q (F0 m (pc + 1) ls (.int v :: rest))) : W p l e R s m args below meth c H locs cells slots Q (F0 m pc ls (.int i :: .ref b :: rest)) := by
  obtain ⟨h1, h2⟩ := he_in hi hk hL
  refine va_sld hexec hb hX hbl hbA hS h1 hdg ?_
  rw [h2, hv]
  exact kk
end HLA
theorem vp_updL_s (f : Nat → Int64) (k : Nat) (x : Int64) : vp_updL f k x k = x := by simp [vp_updL]
theorem lcmp_0 {x y : Int64} (h : x = y) : lg_cmp x y = 0 := by subst h; simp [lg_cmp, Int64.lt_irrefl]
section HLB
variable {l : Launch} {g : he_G} {y : MethodName} {wl wl' : List Cond} {cc : ByteArray} {maxL fr lo mc ms : Nat} {av : List Value} {ws : va_W}
theorem he_beginH {ret : Option FieldType} {hh : List (Nat × Nat × Nat × Nat)} (Qf : (Nat → Prop) → Array Value → State → Outcome → State → Prop) (hy : plainName y.cls = true) (hw : wl = Cond.codeWith y cc maxL ret hh :: wl') (hav : (lg_sl av).length ≤ maxL)
    (body : ∀ (p : Program) (e : Env) (s : State) (m : MethodId) (args : Array Value) (below : List Frame) (meth : Method) (c : Code) (A : Nat → Prop) (ls : Array Slot) (H : Heap) (locs : List Loc) (Q : State → Prop), Q = MQ below (Qf A) args s mc ms A → c.exceptionTable.toList = tableOf hh → he_B p s m args meth c A ls H locs g y wl cc maxL ret av ws →
      W p l e (he_room fr lo mc ms) s m args below meth c H locs 0 0 Q (F0 m 0 ls [])) (sz : Nat) : Met l y wl (he_room fr lo mc ms) (va_Pc av (he_pre g ws sz)) (Qf (va_A ws sz)) mc ms (va_A ws sz) := by
  refine MetFree.of_bodyS (code := cc) (maxLocals := maxL) (ret := ret) hy ?_ ?_
  · intro args s m h hn
    obtain ⟨m9, meth, c, hn9, h1, h2, h3, h4, -, h5, h6, -⟩ := Cond.codeWith_spec (atoms_spec (ws := wl) h _ (by rw [hw]; exact List.mem_cons_self))
    cases hn.symm.trans hn9
    exact ⟨meth, c, h1, h2, h3, h4, h5, h6⟩
  · intro p e s m args below meth c s₁ B hml hv _
    have hh0 : s₁.heap = s.heap := by rw [B.state]; rfl
    obtain ⟨rfl, hsz, hP, hK, hD0, hE⟩ := hv
    subst hsz
    have hD := hD0.self (sz := s.heap.size)
    have hl := lv_entry av (n := maxL) hav
    have ht := vx_table (x := y) B (atoms_spec (ws := wl) B.pre _ (by rw [hw]; exact List.mem_cons_self))
    have hk := body p e s m _ below meth c (va_A ws s.heap.size) _ _ _ _ rfl ht ⟨B.exec, B.bytes, B.returns, hml, findClass_of_methodNamed B.named, atoms_spec (ws := wl) B.pre, B.notSynchronized, (name_of_methodNamed B.named B.method).1, hP, hK, hD, va_S.rf, fun q h => Or.inr h, hE, hl⟩
    rw [← lg_entry_eq] at hk
    obtain ⟨t, a1, o, b1, b2, b3⟩ := hk s₁ hh0 (Stand.of_body B)
    exact ⟨t, o, a1, b1, b2, ⟨b3.1, b3.2⟩⟩
end HLB
end
section
/-! pure words -/
def he_within (n a b : Int32) : Int32 := if n < a then 0 else if b < n then 0 else 1
def mvF (f : Nat → Int32) (i j : Nat) (d : Int32) : Nat → Int32 := upd (upd f i (f i - (if f i < d then f i else d))) j (upd f i (f i - (if f i < d then f i else d)) j + (if f i < d then f i else d))
def fcF (f : Nat → Int32) (c m : Int32) : Nat → Int32 := upd (upd f 10 c) 11 m
def frF (f : Nat → Int32) (d : Int32) : Nat → Int32 := upd f 5 (if f 5 + d < 100 then f 5 + d else 100)
def mnF (f : Nat → Int32) (i j : Nat) (d : Int32) : Nat → Int32 := upd (upd f i (f i - f i * (if 0 ≤ d then d else 0 - d) / 100)) j (upd f i (f i - f i * (if 0 ≤ d then d else 0 - d) / 100) j + f i * (if 0 ≤ d then d else 0 - d) / 100)
def dsF (f : Nat → Int32) (d : Int32) : Nat → Int32 := if d ≤ 0 then mnF f 4 3 d else mnF f 3 4 d
def flF (u f : Nat → Int32) (i : Nat) : Nat → Int32 := fun k => if k < i then u k else f k
theorem flF_0 (u f : Nat → Int32) : flF u f 0 = f := by funext k; simp [flF]
theorem flF_s (u f : Nat → Int32) (i : Nat) : upd (flF u f i) i (u i) = flF u f (i + 1) := by
  funext k
  unfold upd flF
  by_cases h : k = i
  · subst h; simp
  · by_cases h2 : k < i
    · simp [h, h2, Nat.lt_succ_of_lt h2]
    · simp [h, h2, show ¬ k < i + 1 by omega]
def unF (k : Nat) : Int32 := he_untold.getD k 0
def nrF (k : Nat) : Int32 := 9 - nI k
def lwF (b st : Nat → Int32) (i : Nat) : Nat → Int32 := fun k => if 12 ≤ k ∧ k < 12 + i then st (k - 12) else b k
theorem lwF_0 (b st : Nat → Int32) : lwF b st 0 = b := by funext k; simp only [lwF]; rw [if_neg (by omega)]
theorem lwF_s (b st : Nat → Int32) (i : Nat) : upd (lwF b st i) (12 + i) (st i) = lwF b st (i + 1) := by
  funext k
  unfold upd lwF
  by_cases h : k = 12 + i
  · subst h; simp
  · by_cases h2 : 12 ≤ k ∧ k < 12 + i
    · simp [h, h2, show k < 12 + (i + 1) by omega]
    · simp [h, h2, show ¬ (12 ≤ k ∧ k < 12 + (i + 1)) by omega]
set_option maxHeartbeats 4000000 in
set_option maxRecDepth 100000 in
theorem c_X10_within (l : Launch) (g : he_G) (x : Int32) (a : Int32) (b : Int32)  : he_I l yX10_within wsX10_within 0 0 0 0 g [.int x, .int a, .int b] [] (fun (r : Int32) (u : Unit) => r = he_within x a b) (fun (u : Unit) => []) := by
  refine he_begin (l := l) (g := g) (y := yX10_within) (wl := wsX10_within) (fr := 0) (lo := 0) (mc := 0) (ms := 0) (av := [.int x, .int a, .int b]) (ws := []) (cc := cX10_within) (maxL := 3) (ret := (some .boolean)) (fun A => va_Qi (fun (r : Int32) (u : Unit) => r = he_within x a b) (fun u t => he_post g A ((fun (u : Unit) => []) u) t) A) (by decide) rfl (Nat.le_of_ble_eq_true rfl) ?_
  intro p e s m args below meth c A ls H locs Q hQ hB
  obtain ⟨hx, hb, hr, hml, hown, hts, hlk, hin, hP, hK, hD, hS, hA, hE, hl⟩ := hB
  have hl : lv_has ls 3 [(0, .int x), (1, .int a), (2, .int b)] := hl
  refine lv_iload_n hx hb dX10_within_0 rfl (lv_at hl 0 rfl) ?_
  refine lv_iload_n hx hb dX10_within_1 rfl (lv_at hl 1 rfl) ?_
  refine lv_icmp_lt (tgt := 14) hx hb dX10_within_2 (by decide) (fun c_1 => ?_) (fun c_1 => ?_)
  · refine lv_iconst (v := 0) hx hb dX10_within_14 (by decide) ?_
    exact he_rz hQ hx hb hr hlk hP hD hS dX10_within_15 (Nat.le_of_ble_eq_true rfl) (Nat.le_of_ble_eq_true rfl) rfl (()) (rfl) (by simp [he_within, c_1])
  · refine lv_iload_n hx hb dX10_within_5 rfl (lv_at hl 0 rfl) ?_
    refine lv_iload_n hx hb dX10_within_6 rfl (lv_at hl 2 rfl) ?_
    refine lv_icmp_gt (tgt := 14) hx hb dX10_within_7 (by decide) (fun c_2 => ?_) (fun c_2 => ?_)
    · refine lv_iconst (v := 0) hx hb dX10_within_14 (by decide) ?_
      exact he_rz hQ hx hb hr hlk hP hD hS dX10_within_15 (Nat.le_of_ble_eq_true rfl) (Nat.le_of_ble_eq_true rfl) rfl (()) (rfl) (by simp [he_within, c_1, c_2])
    · refine lv_iconst (v := 1) hx hb dX10_within_10 (by decide) ?_
      refine lv_goto (tgt := 15) hx hb dX10_within_11 (by decide) ?_
      exact he_rz hQ hx hb hr hlk hP hD hS dX10_within_15 (Nat.le_of_ble_eq_true rfl) (Nat.le_of_ble_eq_true rfl) rfl (()) (rfl) (by simp [he_within, c_1, c_2])
set_option maxHeartbeats 4000000 in
set_option maxRecDepth 100000 in
theorem c_X4_move (l : Launch) (g : he_G) (h0 : Nat) (q0 : Nat) (q1 : Nat) (mo : Int32) (f : Nat → Int32) (i : Nat) (j : Nat) (d : Int32) (hi : i < 24) (hj : j < 24) : he_V l yX4_move wsX4_move 1 13 0 0 g [.ref h0, .int (nI i), .int (nI j), .int d] [(oX4 h0 q0 q1 mo), (aI g q0 24 f)] (fun (u : Unit) => True) (fun (u : Unit) => [(oX4 h0 q0 q1 mo), (aI g q0 24 (mvF f i j d))]) := by
  refine he_begin (l := l) (g := g) (y := yX4_move) (wl := wsX4_move) (fr := 1) (lo := 13) (mc := 0) (ms := 0) (av := [.ref h0, .int (nI i), .int (nI j), .int d]) (ws := [(oX4 h0 q0 q1 mo), (aI g q0 24 f)]) (cc := cX4_move) (maxL := 5) (ret := none) (fun A => va_Qv (fun (u : Unit) => True) (fun u t => he_post g A ((fun (u : Unit) => [(oX4 h0 q0 q1 mo), (aI g q0 24 (mvF f i j d))]) u) t) A) (by decide) rfl (Nat.le_of_ble_eq_true rfl) ?_
  intro p e s m args below meth c A ls H locs Q hQ hB
  obtain ⟨hx, hb, hr, hml, hown, hts, hlk, hin, hP, hK, hD, hS, hA, hE, hl⟩ := hB
  have hl : lv_has ls 5 [(0, .ref h0), (1, .int (nI i)), (2, .int (nI j)), (3, .int d)] := hl
  have f9 := hts (.fieldLink RX4 9 "HiredEnemy$Course" "now" "[I") (iwoX4_move (k := 0) rfl)
  have inX4 : ∀ w ∈ wsX40, w ∈ wsX4_move := innX4_move_X4
  have ml81 := hts (.methodLink RX4 81 Lib.Math.min.name) (iwoX4_move (k := 1) rfl)
  have msmin := hts (.static Lib.Math.min.name) (iwoX4_move (k := 2) rfl)
  have mi := hts (.initialized "java/lang/Math") (iwoX4_move (k := 3) rfl)
  have mcmin := hts (.code Lib.Math.min.name Lib.Math.min.code 2 (some .int)) (iwoX4_move (k := 4) rfl)
  refine lv_iload_n hx hb dX4_move_0 rfl (lv_at hl 3 rfl) ?_
  refine lv_aload_n hx hb dX4_move_1 rfl (lv_at hl 0 rfl) ?_
  refine va_get (v := .ref q0) (T := TX4) (N := 3) hx hb hts inX4 hown hK hP 0 rfl rfl 0 (by decide) f9 (fun _ h9 => h9) rfl dX4_move_2 ?_
  refine lv_iload_n hx hb dX4_move_5 rfl (lv_at hl 1 rfl) ?_
  refine he_iald hx hb hK hP 1 rfl (i) rfl (by first | assumption | decide | omega) (by first | decide | assumption) (f i) rfl dX4_move_6 ?_
  refine va_mmin hx hb (by rw [hml]; exact hl.1.symm) hown ml81 msmin mi mcmin (by decide) (Nat.le_of_ble_eq_true rfl) (Nat.le_of_ble_eq_true rfl) (Nat.le_of_ble_eq_true rfl) dX4_move_7 ?_
  refine lv_istore (lv' := [(4, .int (if (f i) < d then f i else d)), (0, .ref h0), (1, .int (nI i)), (2, .int (nI j)), (3, .int d)]) hx hb dX4_move_10 hl (by decide) rfl (fun ls hl => ?_)
  refine lv_aload_n hx hb dX4_move_12 rfl (lv_at hl 1 rfl) ?_
  refine va_get (v := .ref q0) (T := TX4) (N := 3) hx hb hts inX4 hown hK hP 0 rfl rfl 0 (by decide) f9 (fun _ h9 => h9) rfl dX4_move_13 ?_
  refine lv_iload_n hx hb dX4_move_16 rfl (lv_at hl 2 rfl) ?_
  refine lv_dup2_11 hx hb dX4_move_17 rfl rfl ?_
  refine he_iald hx hb hK hP 1 rfl (i) rfl (by first | assumption | decide | omega) (by first | decide | assumption) (f i) rfl dX4_move_18 ?_
  refine lv_iload hx hb dX4_move_19 (lv_at hl 0 rfl) ?_
  refine lv_isub hx hb dX4_move_21 ?_
  refine he_iast hx hb hK hP hD hS 1 rfl (i) rfl (by first | assumption | decide | omega) (by first | decide | assumption) dX4_move_22 (fun H locs hP hD hS => ?_)
  have hP : va_P g.1 vwCl [(oX4 h0 q0 q1 mo), (aI g q0 24 (upd f i ((f i) - (if (f i) < d then f i else d))))] H := hP
  have hD : va_D A [(oX4 h0 q0 q1 mo), (aI g q0 24 (upd f i ((f i) - (if (f i) < d then f i else d))))] := hD
  refine lv_aload_n hx hb dX4_move_23 rfl (lv_at hl 1 rfl) ?_
  refine va_get (v := .ref q0) (T := TX4) (N := 3) hx hb hts inX4 hown hK hP 0 rfl rfl 0 (by decide) f9 (fun _ h9 => h9) rfl dX4_move_24 ?_
  refine lv_iload_n hx hb dX4_move_27 rfl (lv_at hl 3 rfl) ?_
  refine lv_dup2_11 hx hb dX4_move_28 rfl rfl ?_
  refine he_iald hx hb hK hP 1 rfl (j) rfl (by first | assumption | decide | omega) (by first | decide | assumption) ((upd f i ((f i) - (if (f i) < d then f i else d))) j) rfl dX4_move_29 ?_
  refine lv_iload hx hb dX4_move_30 (lv_at hl 0 rfl) ?_
  refine lv_iadd hx hb dX4_move_32 ?_
  refine he_iast hx hb hK hP hD hS 1 rfl (j) rfl (by first | assumption | decide | omega) (by first | decide | assumption) dX4_move_33 (fun H locs hP hD hS => ?_)
  have hP : va_P g.1 vwCl [(oX4 h0 q0 q1 mo), (aI g q0 24 (upd (upd f i ((f i) - (if (f i) < d then f i else d))) j (((upd f i ((f i) - (if (f i) < d then f i else d))) j) + (if (f i) < d then f i else d))))] H := hP
  have hD : va_D A [(oX4 h0 q0 q1 mo), (aI g q0 24 (upd (upd f i ((f i) - (if (f i) < d then f i else d))) j (((upd f i ((f i) - (if (f i) < d then f i else d))) j) + (if (f i) < d then f i else d))))] := hD
  exact he_rv hQ hx hb hr hlk hP hD hS dX4_move_34 (Nat.le_of_ble_eq_true rfl) (Nat.le_of_ble_eq_true rfl) (()) (rfl) (trivial)
set_option maxHeartbeats 4000000 in
set_option maxRecDepth 100000 in
theorem c_X4_pledge (l : Launch) (g : he_G) (h0 : Nat) (q0 : Nat) (q1 : Nat) (mo : Int32) (f : Nat → Int32) (cv : Int32)  : he_V l yX4_pledge wsX4_pledge 0 0 0 0 g [.ref h0, .int cv] [(oX4 h0 q0 q1 mo), (aI g q0 24 f)] (fun (u : Unit) => True) (fun (u : Unit) => [(oX4 h0 q0 q1 mo), (aI g q0 24 (fcF f cv mo))]) := by
  refine he_begin (l := l) (g := g) (y := yX4_pledge) (wl := wsX4_pledge) (fr := 0) (lo := 0) (mc := 0) (ms := 0) (av := [.ref h0, .int cv]) (ws := [(oX4 h0 q0 q1 mo), (aI g q0 24 f)]) (cc := cX4_pledge) (maxL := 2) (ret := none) (fun A => va_Qv (fun (u : Unit) => True) (fun u t => he_post g A ((fun (u : Unit) => [(oX4 h0 q0 q1 mo), (aI g q0 24 (fcF f cv mo))]) u) t) A) (by decide) rfl (Nat.le_of_ble_eq_true rfl) ?_
  intro p e s m args below meth c A ls H locs Q hQ hB
  obtain ⟨hx, hb, hr, hml, hown, hts, hlk, hin, hP, hK, hD, hS, hA, hE, hl⟩ := hB
  have hl : lv_has ls 2 [(0, .ref h0), (1, .int cv)] := hl
  have f9 := hts (.fieldLink RX4 9 "HiredEnemy$Course" "now" "[I") (iwoX4_pledge (k := 0) rfl)
  have inX4 : ∀ w ∈ wsX40, w ∈ wsX4_pledge := innX4_pledge_X4
  have f18 := hts (.fieldLink RX4 18 "HiredEnemy$Course" "month" "I") (iwoX4_pledge (k := 1) rfl)
  refine lv_aload_n hx hb dX4_pledge_0 rfl (lv_at hl 0 rfl) ?_
  refine va_get (v := .ref q0) (T := TX4) (N := 3) hx hb hts inX4 hown hK hP 0 rfl rfl 0 (by decide) f9 (fun _ h9 => h9) rfl dX4_pledge_1 ?_
  refine lv_bipush (v := 10) hx hb dX4_pledge_4 (by decide) ?_
  refine lv_iload_n hx hb dX4_pledge_6 rfl (lv_at hl 1 rfl) ?_
  refine he_iast hx hb hK hP hD hS 1 rfl (10) (by decide) (by decide) (by first | decide | assumption) dX4_pledge_7 (fun H locs hP hD hS => ?_)
  have hP : va_P g.1 vwCl [(oX4 h0 q0 q1 mo), (aI g q0 24 (upd f 10 cv))] H := hP
  have hD : va_D A [(oX4 h0 q0 q1 mo), (aI g q0 24 (upd f 10 cv))] := hD
  refine lv_aload_n hx hb dX4_pledge_8 rfl (lv_at hl 0 rfl) ?_
  refine va_get (v := .ref q0) (T := TX4) (N := 3) hx hb hts inX4 hown hK hP 0 rfl rfl 0 (by decide) f9 (fun _ h9 => h9) rfl dX4_pledge_9 ?_
  refine lv_bipush (v := 11) hx hb dX4_pledge_12 (by decide) ?_
  refine lv_aload_n hx hb dX4_pledge_14 rfl (lv_at hl 0 rfl) ?_
  refine va_get (v := .int mo) (T := TX4) (N := 3) hx hb hts inX4 hown hK hP 0 rfl rfl 2 (by decide) f18 (fun _ h9 => h9) rfl dX4_pledge_15 ?_
  refine he_iast hx hb hK hP hD hS 1 rfl (11) (by decide) (by decide) (by first | decide | assumption) dX4_pledge_18 (fun H locs hP hD hS => ?_)
  have hP : va_P g.1 vwCl [(oX4 h0 q0 q1 mo), (aI g q0 24 (upd (upd f 10 cv) 11 mo))] H := hP
  have hD : va_D A [(oX4 h0 q0 q1 mo), (aI g q0 24 (upd (upd f 10 cv) 11 mo))] := hD
  exact he_rv hQ hx hb hr hlk hP hD hS dX4_pledge_19 (Nat.le_of_ble_eq_true rfl) (Nat.le_of_ble_eq_true rfl) (()) (rfl) (trivial)
set_option maxHeartbeats 4000000 in
set_option maxRecDepth 100000 in
theorem c_X4_frighten (l : Launch) (g : he_G) (h0 : Nat) (q0 : Nat) (q1 : Nat) (mo : Int32) (f : Nat → Int32) (d : Int32)  : he_V l yX4_frighten wsX4_frighten 1 15 0 0 g [.ref h0, .int d] [(oX4 h0 q0 q1 mo), (aI g q0 24 f)] (fun (u : Unit) => True) (fun (u : Unit) => [(oX4 h0 q0 q1 mo), (aI g q0 24 (frF f d))]) := by
  refine he_begin (l := l) (g := g) (y := yX4_frighten) (wl := wsX4_frighten) (fr := 1) (lo := 15) (mc := 0) (ms := 0) (av := [.ref h0, .int d]) (ws := [(oX4 h0 q0 q1 mo), (aI g q0 24 f)]) (cc := cX4_frighten) (maxL := 2) (ret := none) (fun A => va_Qv (fun (u : Unit) => True) (fun u t => he_post g A ((fun (u : Unit) => [(oX4 h0 q0 q1 mo), (aI g q0 24 (frF f d))]) u) t) A) (by decide) rfl (Nat.le_of_ble_eq_true rfl) ?_
  intro p e s m args below meth c A ls H locs Q hQ hB
  obtain ⟨hx, hb, hr, hml, hown, hts, hlk, hin, hP, hK, hD, hS, hA, hE, hl⟩ := hB
  have hl : lv_has ls 2 [(0, .ref h0), (1, .int d)] := hl
  have f9 := hts (.fieldLink RX4 9 "HiredEnemy$Course" "now" "[I") (iwoX4_frighten (k := 0) rfl)
  have inX4 : ∀ w ∈ wsX40, w ∈ wsX4_frighten := innX4_frighten_X4
  have ml81 := hts (.methodLink RX4 81 Lib.Math.min.name) (iwoX4_frighten (k := 1) rfl)
  have msmin := hts (.static Lib.Math.min.name) (iwoX4_frighten (k := 2) rfl)
  have mi := hts (.initialized "java/lang/Math") (iwoX4_frighten (k := 3) rfl)
  have mcmin := hts (.code Lib.Math.min.name Lib.Math.min.code 2 (some .int)) (iwoX4_frighten (k := 4) rfl)
  refine lv_aload_n hx hb dX4_frighten_0 rfl (lv_at hl 0 rfl) ?_
  refine va_get (v := .ref q0) (T := TX4) (N := 3) hx hb hts inX4 hown hK hP 0 rfl rfl 0 (by decide) f9 (fun _ h9 => h9) rfl dX4_frighten_1 ?_
  refine lv_iconst (v := 5) hx hb dX4_frighten_4 (by decide) ?_
  refine lv_bipush (v := 100) hx hb dX4_frighten_5 (by decide) ?_
  refine lv_aload_n hx hb dX4_frighten_7 rfl (lv_at hl 0 rfl) ?_
  refine va_get (v := .ref q0) (T := TX4) (N := 3) hx hb hts inX4 hown hK hP 0 rfl rfl 0 (by decide) f9 (fun _ h9 => h9) rfl dX4_frighten_8 ?_
  refine lv_iconst (v := 5) hx hb dX4_frighten_11 (by decide) ?_
  refine he_iald hx hb hK hP 1 rfl (5) (by decide) (by decide) (by first | decide | assumption) (f 5) rfl dX4_frighten_12 ?_
  refine lv_iload_n hx hb dX4_frighten_13 rfl (lv_at hl 1 rfl) ?_
  refine lv_iadd hx hb dX4_frighten_14 ?_
  refine va_mmin hx hb (by rw [hml]; exact hl.1.symm) hown ml81 msmin mi mcmin (by decide) (Nat.le_of_ble_eq_true rfl) (Nat.le_of_ble_eq_true rfl) (Nat.le_of_ble_eq_true rfl) dX4_frighten_15 ?_
  refine he_iast hx hb hK hP hD hS 1 rfl (5) (by decide) (by decide) (by first | decide | assumption) dX4_frighten_18 (fun H locs hP hD hS => ?_)
  have hP : va_P g.1 vwCl [(oX4 h0 q0 q1 mo), (aI g q0 24 (upd f 5 (if ((f 5) + d) < 100 then (f 5) + d else 100)))] H := hP
  have hD : va_D A [(oX4 h0 q0 q1 mo), (aI g q0 24 (upd f 5 (if ((f 5) + d) < 100 then (f 5) + d else 100)))] := hD
  exact he_rv hQ hx hb hr hlk hP hD hS dX4_frighten_19 (Nat.le_of_ble_eq_true rfl) (Nat.le_of_ble_eq_true rfl) (()) (rfl) (trivial)
set_option maxHeartbeats 4000000 in
set_option maxRecDepth 100000 in
theorem c_X4_desert (l : Launch) (g : he_G) (h0 : Nat) (q0 : Nat) (q1 : Nat) (mo : Int32) (f : Nat → Int32) (d : Int32)  : he_V l yX4_desert wsX4_desert 1 14 0 0 g [.ref h0, .int d] [(oX4 h0 q0 q1 mo), (aI g q0 24 f)] (fun (u : Unit) => True) (fun (u : Unit) => [(oX4 h0 q0 q1 mo), (aI g q0 24 (dsF f d))]) := by
  refine he_begin (l := l) (g := g) (y := yX4_desert) (wl := wsX4_desert) (fr := 1) (lo := 14) (mc := 0) (ms := 0) (av := [.ref h0, .int d]) (ws := [(oX4 h0 q0 q1 mo), (aI g q0 24 f)]) (cc := cX4_desert) (maxL := 5) (ret := none) (fun A => va_Qv (fun (u : Unit) => True) (fun u t => he_post g A ((fun (u : Unit) => [(oX4 h0 q0 q1 mo), (aI g q0 24 (dsF f d))]) u) t) A) (by decide) rfl (Nat.le_of_ble_eq_true rfl) ?_
  intro p e s m args below meth c A ls H locs Q hQ hB
  obtain ⟨hx, hb, hr, hml, hown, hts, hlk, hin, hP, hK, hD, hS, hA, hE, hl⟩ := hB
  have hl : lv_has ls 5 [(0, .ref h0), (1, .int d)] := hl
  have f9 := hts (.fieldLink RX4 9 "HiredEnemy$Course" "now" "[I") (iwoX4_desert (k := 0) rfl)
  have inX4 : ∀ w ∈ wsX40, w ∈ wsX4_desert := innX4_desert_X4
  have ml100 := hts (.methodLink RX4 100 Lib.Math.abs.name) (iwoX4_desert (k := 1) rfl)
  have msabs := hts (.static Lib.Math.abs.name) (iwoX4_desert (k := 2) rfl)
  have mi := hts (.initialized "java/lang/Math") (iwoX4_desert (k := 3) rfl)
  have mcabs := hts (.code Lib.Math.abs.name Lib.Math.abs.code 1 (some .int)) (iwoX4_desert (k := 4) rfl)
  refine lv_iload_n hx hb dX4_desert_0 rfl (lv_at hl 1 rfl) ?_
  refine lv_if_le (tgt := 8) hx hb dX4_desert_1 (by decide) (fun c_1 => ?_) (fun c_1 => ?_)
  · refine lv_iconst (v := 4) hx hb dX4_desert_8 (by decide) ?_
    refine lv_istore_n (lv' := [(2, .int 4), (0, .ref h0), (1, .int d)]) hx hb dX4_desert_9 rfl hl (by decide) rfl (fun ls hl => ?_)
    refine lv_iload_n hx hb dX4_desert_10 rfl (lv_at hl 2 rfl) ?_
    refine lv_if_le (tgt := 18) hx hb dX4_desert_11 (by decide) (fun c_2 => ?_) (fun c_2 => ?_)
    · refine lv_iconst (v := 3) hx hb dX4_desert_18 (by decide) ?_
      refine lv_istore_n (lv' := [(3, .int 3), (2, .int 4), (0, .ref h0), (1, .int d)]) hx hb dX4_desert_19 rfl hl (by decide) rfl (fun ls hl => ?_)
      refine lv_aload_n hx hb dX4_desert_20 rfl (lv_at hl 2 rfl) ?_
      refine va_get (v := .ref q0) (T := TX4) (N := 3) hx hb hts inX4 hown hK hP 0 rfl rfl 0 (by decide) f9 (fun _ h9 => h9) rfl dX4_desert_21 ?_
      refine lv_iload_n hx hb dX4_desert_24 rfl (lv_at hl 1 rfl) ?_
      refine he_iald hx hb hK hP 1 rfl (4) (by decide) (by decide) (by first | decide | assumption) (f 4) rfl dX4_desert_25 ?_
      refine lv_iload_n hx hb dX4_desert_26 rfl (lv_at hl 3 rfl) ?_
      refine va_mabs hx hb (by rw [hml]; exact hl.1.symm) hown ml100 msabs mi mcabs (by decide) (Nat.le_of_ble_eq_true rfl) (Nat.le_of_ble_eq_true rfl) (Nat.le_of_ble_eq_true rfl) dX4_desert_27 ?_
      refine lv_imul hx hb dX4_desert_30 ?_
      refine lv_bipush (v := 100) hx hb dX4_desert_31 (by decide) ?_
      refine lv_idiv hx hb dX4_desert_33 (by decide) ?_
      refine lv_istore (lv' := [(4, .int (((f 4) * (if 0 ≤ d then d else 0 - d)) / 100)), (3, .int 3), (2, .int 4), (0, .ref h0), (1, .int d)]) hx hb dX4_desert_34 hl (by decide) rfl (fun ls hl => ?_)
      refine lv_aload_n hx hb dX4_desert_36 rfl (lv_at hl 3 rfl) ?_
      refine va_get (v := .ref q0) (T := TX4) (N := 3) hx hb hts inX4 hown hK hP 0 rfl rfl 0 (by decide) f9 (fun _ h9 => h9) rfl dX4_desert_37 ?_
      refine lv_iload_n hx hb dX4_desert_40 rfl (lv_at hl 2 rfl) ?_
      refine lv_dup2_11 hx hb dX4_desert_41 rfl rfl ?_
      refine he_iald hx hb hK hP 1 rfl (4) (by decide) (by decide) (by first | decide | assumption) (f 4) rfl dX4_desert_42 ?_
      refine lv_iload hx hb dX4_desert_43 (lv_at hl 0 rfl) ?_
      refine lv_isub hx hb dX4_desert_45 ?_
      refine he_iast hx hb hK hP hD hS 1 rfl (4) (by decide) (by decide) (by first | decide | assumption) dX4_desert_46 (fun H locs hP hD hS => ?_)
      have hP : va_P g.1 vwCl [(oX4 h0 q0 q1 mo), (aI g q0 24 (upd f 4 ((f 4) - (((f 4) * (if 0 ≤ d then d else 0 - d)) / 100))))] H := hP
      have hD : va_D A [(oX4 h0 q0 q1 mo), (aI g q0 24 (upd f 4 ((f 4) - (((f 4) * (if 0 ≤ d then d else 0 - d)) / 100))))] := hD
      refine lv_aload_n hx hb dX4_desert_47 rfl (lv_at hl 3 rfl) ?_
      refine va_get (v := .ref q0) (T := TX4) (N := 3) hx hb hts inX4 hown hK hP 0 rfl rfl 0 (by decide) f9 (fun _ h9 => h9) rfl dX4_desert_48 ?_
      refine lv_iload_n hx hb dX4_desert_51 rfl (lv_at hl 1 rfl) ?_
      refine lv_dup2_11 hx hb dX4_desert_52 rfl rfl ?_
      refine he_iald hx hb hK hP 1 rfl (3) (by decide) (by decide) (by first | decide | assumption) ((upd f 4 ((f 4) - (((f 4) * (if 0 ≤ d then d else 0 - d)) / 100))) 3) rfl dX4_desert_53 ?_
      refine lv_iload hx hb dX4_desert_54 (lv_at hl 0 rfl) ?_
      refine lv_iadd hx hb dX4_desert_56 ?_
      refine he_iast hx hb hK hP hD hS 1 rfl (3) (by decide) (by decide) (by first | decide | assumption) dX4_desert_57 (fun H locs hP hD hS => ?_)
      have hP : va_P g.1 vwCl [(oX4 h0 q0 q1 mo), (aI g q0 24 (upd (upd f 4 ((f 4) - (((f 4) * (if 0 ≤ d then d else 0 - d)) / 100))) 3 (((upd f 4 ((f 4) - (((f 4) * (if 0 ≤ d then d else 0 - d)) / 100))) 3) + (((f 4) * (if 0 ≤ d then d else 0 - d)) / 100))))] H := hP
      have hD : va_D A [(oX4 h0 q0 q1 mo), (aI g q0 24 (upd (upd f 4 ((f 4) - (((f 4) * (if 0 ≤ d then d else 0 - d)) / 100))) 3 (((upd f 4 ((f 4) - (((f 4) * (if 0 ≤ d then d else 0 - d)) / 100))) 3) + (((f 4) * (if 0 ≤ d then d else 0 - d)) / 100))))] := hD
      exact he_rv hQ hx hb hr hlk hP hD hS dX4_desert_58 (Nat.le_of_ble_eq_true rfl) (Nat.le_of_ble_eq_true rfl) (()) (by simp [dsF, mnF, c_1, c_2]) (trivial)
    · exact absurd c_1 c_2
  · refine lv_iconst (v := 3) hx hb dX4_desert_4 (by decide) ?_
    refine lv_goto (tgt := 9) hx hb dX4_desert_5 (by decide) ?_
    refine lv_istore_n (lv' := [(2, .int 3), (0, .ref h0), (1, .int d)]) hx hb dX4_desert_9 rfl hl (by decide) rfl (fun ls hl => ?_)
    refine lv_iload_n hx hb dX4_desert_10 rfl (lv_at hl 2 rfl) ?_
    refine lv_if_le (tgt := 18) hx hb dX4_desert_11 (by decide) (fun c_3 => ?_) (fun c_3 => ?_)
    · exact absurd c_3 c_1
    · refine lv_iconst (v := 4) hx hb dX4_desert_14 (by decide) ?_
      refine lv_goto (tgt := 19) hx hb dX4_desert_15 (by decide) ?_
      refine lv_istore_n (lv' := [(3, .int 4), (2, .int 3), (0, .ref h0), (1, .int d)]) hx hb dX4_desert_19 rfl hl (by decide) rfl (fun ls hl => ?_)
      refine lv_aload_n hx hb dX4_desert_20 rfl (lv_at hl 2 rfl) ?_
      refine va_get (v := .ref q0) (T := TX4) (N := 3) hx hb hts inX4 hown hK hP 0 rfl rfl 0 (by decide) f9 (fun _ h9 => h9) rfl dX4_desert_21 ?_
      refine lv_iload_n hx hb dX4_desert_24 rfl (lv_at hl 1 rfl) ?_
      refine he_iald hx hb hK hP 1 rfl (3) (by decide) (by decide) (by first | decide | assumption) (f 3) rfl dX4_desert_25 ?_
      refine lv_iload_n hx hb dX4_desert_26 rfl (lv_at hl 3 rfl) ?_
      refine va_mabs hx hb (by rw [hml]; exact hl.1.symm) hown ml100 msabs mi mcabs (by decide) (Nat.le_of_ble_eq_true rfl) (Nat.le_of_ble_eq_true rfl) (Nat.le_of_ble_eq_true rfl) dX4_desert_27 ?_
      refine lv_imul hx hb dX4_desert_30 ?_
      refine lv_bipush (v := 100) hx hb dX4_desert_31 (by decide) ?_
      refine lv_idiv hx hb dX4_desert_33 (by decide) ?_
      refine lv_istore (lv' := [(4, .int (((f 3) * (if 0 ≤ d then d else 0 - d)) / 100)), (3, .int 4), (2, .int 3), (0, .ref h0), (1, .int d)]) hx hb dX4_desert_34 hl (by decide) rfl (fun ls hl => ?_)
      refine lv_aload_n hx hb dX4_desert_36 rfl (lv_at hl 3 rfl) ?_
      refine va_get (v := .ref q0) (T := TX4) (N := 3) hx hb hts inX4 hown hK hP 0 rfl rfl 0 (by decide) f9 (fun _ h9 => h9) rfl dX4_desert_37 ?_
      refine lv_iload_n hx hb dX4_desert_40 rfl (lv_at hl 2 rfl) ?_
      refine lv_dup2_11 hx hb dX4_desert_41 rfl rfl ?_
      refine he_iald hx hb hK hP 1 rfl (3) (by decide) (by decide) (by first | decide | assumption) (f 3) rfl dX4_desert_42 ?_
      refine lv_iload hx hb dX4_desert_43 (lv_at hl 0 rfl) ?_
      refine lv_isub hx hb dX4_desert_45 ?_
      refine he_iast hx hb hK hP hD hS 1 rfl (3) (by decide) (by decide) (by first | decide | assumption) dX4_desert_46 (fun H locs hP hD hS => ?_)
      have hP : va_P g.1 vwCl [(oX4 h0 q0 q1 mo), (aI g q0 24 (upd f 3 ((f 3) - (((f 3) * (if 0 ≤ d then d else 0 - d)) / 100))))] H := hP
      have hD : va_D A [(oX4 h0 q0 q1 mo), (aI g q0 24 (upd f 3 ((f 3) - (((f 3) * (if 0 ≤ d then d else 0 - d)) / 100))))] := hD
      refine lv_aload_n hx hb dX4_desert_47 rfl (lv_at hl 3 rfl) ?_
      refine va_get (v := .ref q0) (T := TX4) (N := 3) hx hb hts inX4 hown hK hP 0 rfl rfl 0 (by decide) f9 (fun _ h9 => h9) rfl dX4_desert_48 ?_
      refine lv_iload_n hx hb dX4_desert_51 rfl (lv_at hl 1 rfl) ?_
      refine lv_dup2_11 hx hb dX4_desert_52 rfl rfl ?_
      refine he_iald hx hb hK hP 1 rfl (4) (by decide) (by decide) (by first | decide | assumption) ((upd f 3 ((f 3) - (((f 3) * (if 0 ≤ d then d else 0 - d)) / 100))) 4) rfl dX4_desert_53 ?_
      refine lv_iload hx hb dX4_desert_54 (lv_at hl 0 rfl) ?_
      refine lv_iadd hx hb dX4_desert_56 ?_
      refine he_iast hx hb hK hP hD hS 1 rfl (4) (by decide) (by decide) (by first | decide | assumption) dX4_desert_57 (fun H locs hP hD hS => ?_)
      have hP : va_P g.1 vwCl [(oX4 h0 q0 q1 mo), (aI g q0 24 (upd (upd f 3 ((f 3) - (((f 3) * (if 0 ≤ d then d else 0 - d)) / 100))) 4 (((upd f 3 ((f 3) - (((f 3) * (if 0 ≤ d then d else 0 - d)) / 100))) 4) + (((f 3) * (if 0 ≤ d then d else 0 - d)) / 100))))] H := hP
      have hD : va_D A [(oX4 h0 q0 q1 mo), (aI g q0 24 (upd (upd f 3 ((f 3) - (((f 3) * (if 0 ≤ d then d else 0 - d)) / 100))) 4 (((upd f 3 ((f 3) - (((f 3) * (if 0 ≤ d then d else 0 - d)) / 100))) 4) + (((f 3) * (if 0 ≤ d then d else 0 - d)) / 100))))] := hD
      exact he_rv hQ hx hb hr hlk hP hD hS dX4_desert_58 (Nat.le_of_ble_eq_true rfl) (Nat.le_of_ble_eq_true rfl) (()) (by simp [dsF, mnF, c_1, c_3]) (trivial)
set_option maxHeartbeats 4000000 in
set_option maxRecDepth 100000 in
/-- Arrays.fill -/
theorem c_J7_fill_53178 (l : Launch) (g : he_G) (a0 : Nat) (n : Nat) (f : Nat → Int32) (v : Int32) (hn : n < 2147483648) : he_V l yJ7_fill_53178 wsJ7_fill_53178 0 0 0 0 g [.ref a0, .int v] [(aI g a0 n f)] (fun (u : Unit) => True) (fun (u : Unit) => [(aI g a0 n (flF (fun _ => v) f n))]) := by
  refine he_begin (l := l) (g := g) (y := yJ7_fill_53178) (wl := wsJ7_fill_53178) (fr := 0) (lo := 0) (mc := 0) (ms := 0) (av := [.ref a0, .int v]) (ws := [(aI g a0 n f)]) (cc := cJ7_fill_53178) (maxL := 4) (ret := none) (fun A => va_Qv (fun (u : Unit) => True) (fun u t => he_post g A ((fun (u : Unit) => [(aI g a0 n (flF (fun _ => v) f n))]) u) t) A) (by decide) rfl (Nat.le_of_ble_eq_true rfl) ?_
  intro p e s m args below meth c A ls H locs Q hQ hB
  obtain ⟨hx, hb, hr, hml, hown, hts, hlk, hin, hP, hK, hD, hS, hA, hE, hl⟩ := hB
  have hl : lv_has ls 4 [(0, .ref a0), (1, .int v)] := hl
  refine lv_iconst (v := 0) hx hb dJ7_fill_53178_0 (by decide) ?_
  refine lv_istore_n (lv' := [(2, .int 0), (0, .ref a0), (1, .int v)]) hx hb dJ7_fill_53178_1 rfl hl (by decide) rfl (fun ls hl => ?_)
  refine lv_aload_n hx hb dJ7_fill_53178_2 rfl (lv_at hl 1 rfl) ?_
  refine va_alen (v := nI n) hx hb hK hP 0 1 rfl rfl rfl dJ7_fill_53178_3 ?_
  refine lv_istore_n (lv' := [(3, .int (nI n)), (2, .int 0), (0, .ref a0), (1, .int v)]) hx hb dJ7_fill_53178_4 rfl hl (by decide) rfl (fun ls hl => ?_)
  have loop5 : ∀ (n9 : Nat) (j : Nat), n - j < n9 → (j ≤ n) → ∀ (H : Heap) (locs : List Loc) (ls : Array Slot), va_P g.1 vwCl [(aI g a0 n (flF (fun _ => v) f j))] H → va_D A [(aI g a0 n (flF (fun _ => v) f j))] → va_S A s.heap H locs → lv_has ls 4 [(0, .ref a0), (1, .int v), (2, .int (nI j)), (3, .int (nI n))] → W p l e (he_room 0 0 0 0) s m args below meth c H locs 0 0 Q (F0 m 5 ls []) := by
    intro n9
    induction n9 with
    | zero => intro j hm9; exact absurd hm9 (Nat.not_lt_zero _)
    | succ n9 ih5 =>
      intro j hm9 hj H locs ls hP hD hS hl
      refine lv_iload_n hx hb dJ7_fill_53178_5 rfl (lv_at hl 2 rfl) ?_
      refine lv_iload_n hx hb dJ7_fill_53178_6 rfl (lv_at hl 3 rfl) ?_
      refine lv_icmp_ge (tgt := 20) hx hb dJ7_fill_53178_7 (by decide) (fun c_1 => ?_) (fun c_1 => ?_)
      · have k_2 : n ≤ j := (he_cle (a := n) (b := j) rfl rfl (by omega) (by omega)).mp c_1
        exact he_rv hQ hx hb hr hlk hP hD hS dJ7_fill_53178_20 (Nat.le_of_ble_eq_true rfl) (Nat.le_of_ble_eq_true rfl) (()) (by rw [show n = j by omega]) (trivial)
      · have k_3 : ¬ (n ≤ j) := fun h9 => c_1 ((he_cle (a := n) (b := j) rfl rfl (by omega) (by omega)).mpr h9)
        refine lv_aload_n hx hb dJ7_fill_53178_10 rfl (lv_at hl 0 rfl) ?_
        refine lv_iload_n hx hb dJ7_fill_53178_11 rfl (lv_at hl 2 rfl) ?_
        refine lv_iload_n hx hb dJ7_fill_53178_12 rfl (lv_at hl 1 rfl) ?_
        refine he_iast hx hb hK hP hD hS 0 rfl (j) rfl (by first | assumption | decide | omega) (by first | decide | assumption) dJ7_fill_53178_13 (fun H locs hP hD hS => ?_)
        have hP : va_P g.1 vwCl [(aI g a0 n (upd (flF (fun _ => v) f j) j v))] H := hP
        have hD : va_D A [(aI g a0 n (upd (flF (fun _ => v) f j) j v))] := hD
        refine lv_iinc (v := nI (j + 1)) (lv' := [(2, .int (nI (j + 1))), (0, .ref a0), (1, .int v), (3, .int (nI n))]) hx hb dJ7_fill_53178_14 hl (k := 2) rfl (nI_1 j) (by decide) rfl (fun ls hl => ?_)
        refine lv_goto (tgt := 5) hx hb dJ7_fill_53178_17 (by decide) ?_
        have hP : va_P g.1 vwCl [(aI g a0 n (flF (fun _ => v) f (j + 1)))] H := by rw [← flF_s]; exact hP
        have hD : va_D A [(aI g a0 n (flF (fun _ => v) f (j + 1)))] := by rw [← flF_s]; exact hD
        exact ih5 (j + 1) (by omega) (by omega) _ _ _ hP hD hS (lv_sub hl [1, 2, 0, 3] rfl)
  have hP : va_P g.1 vwCl [(aI g a0 n (flF (fun _ => v) f 0))] H := by rw [flF_0]; exact hP
  have hD : va_D A [(aI g a0 n (flF (fun _ => v) f 0))] := by rw [flF_0]; exact hD
  exact loop5 ((n - 0) + 1) 0 (Nat.lt_succ_self _) (Nat.zero_le _) _ _ _ hP hD hS (lv_sub hl [2, 3, 1, 0] rfl)
set_option maxHeartbeats 4000000 in
set_option maxRecDepth 100000 in
theorem c_X9_init (l : Launch) (g : he_G) (h0 : Nat)  : he_V l yX9_init wsX9_init 1 12 0 0 g [.ref h0] [] (fun (u : Unit) => True) (fun (u : Unit) => []) := by
  refine he_begin (l := l) (g := g) (y := yX9_init) (wl := wsX9_init) (fr := 1) (lo := 12) (mc := 0) (ms := 0) (av := [.ref h0]) (ws := []) (cc := cX9_init) (maxL := 1) (ret := none) (fun A => va_Qv (fun (u : Unit) => True) (fun u t => he_post g A ((fun (u : Unit) => []) u) t) A) (by decide) rfl (Nat.le_of_ble_eq_true rfl) ?_
  intro p e s m args below meth c A ls H locs Q hQ hB
  obtain ⟨hx, hb, hr, hml, hown, hts, hlk, hin, hP, hK, hD, hS, hA, hE, hl⟩ := hB
  have hl : lv_has ls 1 [(0, .ref h0)] := hl
  have oi1 := hts (.methodLink RX9 1 objectInit) (iwoX9_init (k := 0) rfl)
  have oim := hts (.instanceMethod objectInit) (iwoX9_init (k := 1) rfl)
  have oic := hts (.code objectInit ⟨#[0xb1]⟩ 1 none) (iwoX9_init (k := 2) rfl)
  refine lv_aload_n hx hb dX9_init_0 rfl (lv_at hl 0 rfl) ?_
  refine W.objInit hx hb hown oi1 oim oic rfl (by rw [hml]; exact hl.1) rfl dX9_init_1 (Nat.le_of_ble_eq_true rfl) (Nat.le_of_ble_eq_true rfl) ?_
  refine W.eq (g2 := F0 m 4 ls []) rfl ?_
  exact he_rv hQ hx hb hr hlk hP hD hS dX9_init_4 (Nat.le_of_ble_eq_true rfl) (Nat.le_of_ble_eq_true rfl) (()) (rfl) (trivial)
set_option maxHeartbeats 4000000 in
set_option maxRecDepth 100000 in
theorem c_X4_init (l : Launch) (g : he_G) (h0 : Nat)  : he_V l yX4_init wsX4_init 1 12 2 30 g [.ref h0] [(h0, .inr (4, [.null, .null, .int 0]))] (fun (u : Nat × Nat) => True) (fun (u : Nat × Nat) => [(oX4 h0 u.1 u.2 0), (aI g u.1 24 (fun _ => 0)), (aI g u.2 6 (fun _ => 0))]) := by
  refine he_begin (l := l) (g := g) (y := yX4_init) (wl := wsX4_init) (fr := 1) (lo := 12) (mc := 2) (ms := 30) (av := [.ref h0]) (ws := [(h0, .inr (4, [.null, .null, .int 0]))]) (cc := cX4_init) (maxL := 1) (ret := none) (fun A => va_Qv (fun (u : Nat × Nat) => True) (fun u t => he_post g A ((fun (u : Nat × Nat) => [(oX4 h0 u.1 u.2 0), (aI g u.1 24 (fun _ => 0)), (aI g u.2 6 (fun _ => 0))]) u) t) A) (by decide) rfl (Nat.le_of_ble_eq_true rfl) ?_
  intro p e s m args below meth c A ls H locs Q hQ hB
  obtain ⟨hx, hb, hr, hml, hown, hts, hlk, hin, hP, hK, hD, hS, hA, hE, hl⟩ := hB
  have hl : lv_has ls 1 [(0, .ref h0)] := hl
  have oi3 := hts (.methodLink RX4 3 objectInit) (iwoX4_init (k := 0) rfl)
  have oim := hts (.instanceMethod objectInit) (iwoX4_init (k := 1) rfl)
  have oic := hts (.code objectInit ⟨#[0xb1]⟩ 1 none) (iwoX4_init (k := 2) rfl)
  have harr_int := hts (.arrayClass .int) (iwoX4_init (k := 3) rfl)
  have f9 := hts (.fieldLink RX4 9 "HiredEnemy$Course" "now" "[I") (iwoX4_init (k := 4) rfl)
  have inX4 : ∀ w ∈ wsX40, w ∈ wsX4_init := innX4_init_X4
  have f15 := hts (.fieldLink RX4 15 "HiredEnemy$Course" "shot" "[I") (iwoX4_init (k := 5) rfl)
  refine lv_aload_n hx hb dX4_init_0 rfl (lv_at hl 0 rfl) ?_
  refine W.objInit hx hb hown oi3 oim oic rfl (by rw [hml]; exact hl.1) rfl dX4_init_1 (Nat.le_of_ble_eq_true rfl) (Nat.le_of_ble_eq_true rfl) ?_
  refine W.eq (g2 := F0 m 4 ls []) rfl ?_
  refine lv_aload_n hx hb dX4_init_4 rfl (lv_at hl 0 rfl) ?_
  refine lv_bipush (v := 24) hx hb dX4_init_5 (by decide) ?_
  refine he_newi hx hb harr_int hK hP hD hS hA 24 (by decide) (by decide) (by decide) (Nat.le_of_ble_eq_true rfl) (Nat.le_of_ble_eq_true rfl) dX4_init_7 (fun q_1 H hP hD hS => ?_)
  have hP : va_P g.1 vwCl [(h0, .inr (4, [.null, .null, .int 0])), (aI g q_1 24 (fun _ => 0))] H := hP
  have hD : va_D A [(h0, .inr (4, [.null, .null, .int 0])), (aI g q_1 24 (fun _ => 0))] := hD
  refine W.widen (k := 1) (n := 24) (Nat.le_of_ble_eq_true rfl) (Nat.le_of_ble_eq_true rfl) ?_
  refine va_putF (v := .ref q_1) (ty := tyX4 0) (T := TX4) (N := 3) hx hb hts inX4 tyX4 tyX4_ok nmX4 hown hK hP hD hS 0 rfl rfl 0 (by decide) f9 (fun _ h9 => h9) rfl hin rfl (by decide +kernel) rfl rfl (Nat.le_of_ble_eq_true rfl) dX4_init_9 (fun H locs hP hD hS => ?_)
  have hP : va_P g.1 vwCl [(h0, .inr (4, [.ref q_1, .null, .int 0])), (aI g q_1 24 (fun _ => 0))] H := hP
  have hD : va_D A [(h0, .inr (4, [.ref q_1, .null, .int 0])), (aI g q_1 24 (fun _ => 0))] := hD
  refine lv_aload_n hx hb dX4_init_12 rfl (lv_at hl 0 rfl) ?_
  refine lv_bipush (v := 6) hx hb dX4_init_13 (by decide) ?_
  refine he_newi hx hb harr_int hK hP hD hS hA 6 (by decide) (by decide) (by decide) (Nat.le_of_ble_eq_true rfl) (Nat.le_of_ble_eq_true rfl) dX4_init_15 (fun q_2 H hP hD hS => ?_)
  have hP : va_P g.1 vwCl [(h0, .inr (4, [.ref q_1, .null, .int 0])), (aI g q_1 24 (fun _ => 0)), (aI g q_2 6 (fun _ => 0))] H := hP
  have hD : va_D A [(h0, .inr (4, [.ref q_1, .null, .int 0])), (aI g q_1 24 (fun _ => 0)), (aI g q_2 6 (fun _ => 0))] := hD
  refine W.widen (k := 2) (n := 30) (Nat.le_of_ble_eq_true rfl) (Nat.le_of_ble_eq_true rfl) ?_
  refine va_putF (v := .ref q_2) (ty := tyX4 1) (T := TX4) (N := 3) hx hb hts inX4 tyX4 tyX4_ok nmX4 hown hK hP hD hS 0 rfl rfl 1 (by decide) f15 (fun _ h9 => h9) rfl hin rfl (by decide +kernel) rfl rfl (Nat.le_of_ble_eq_true rfl) dX4_init_17 (fun H locs hP hD hS => ?_)
  have hP : va_P g.1 vwCl [(oX4 h0 q_1 q_2 0), (aI g q_1 24 (fun _ => 0)), (aI g q_2 6 (fun _ => 0))] H := hP
  have hD : va_D A [(oX4 h0 q_1 q_2 0), (aI g q_1 24 (fun _ => 0)), (aI g q_2 6 (fun _ => 0))] := hD
  exact he_rv hQ hx hb hr hlk hP hD hS dX4_init_20 (Nat.le_of_ble_eq_true rfl) (Nat.le_of_ble_eq_true rfl) ((q_1, q_2)) (rfl) (trivial)
set_option maxHeartbeats 4000000 in
set_option maxRecDepth 100000 in
theorem c_X0_init (l : Launch) (g : he_G) (h0 : Nat)  : he_V l yX0_init wsX0_init 1 12 1 3600 g [.ref h0] [(h0, .inr (0, [.null]))] (fun (u : Nat) => True) (fun (u : Nat) => [(oX0 h0 u), (aI g u 3600 (fun _ => 0))]) := by
  refine he_begin (l := l) (g := g) (y := yX0_init) (wl := wsX0_init) (fr := 1) (lo := 12) (mc := 1) (ms := 3600) (av := [.ref h0]) (ws := [(h0, .inr (0, [.null]))]) (cc := cX0_init) (maxL := 1) (ret := none) (fun A => va_Qv (fun (u : Nat) => True) (fun u t => he_post g A ((fun (u : Nat) => [(oX0 h0 u), (aI g u 3600 (fun _ => 0))]) u) t) A) (by decide) rfl (Nat.le_of_ble_eq_true rfl) ?_
  intro p e s m args below meth c A ls H locs Q hQ hB
  obtain ⟨hx, hb, hr, hml, hown, hts, hlk, hin, hP, hK, hD, hS, hA, hE, hl⟩ := hB
  have hl : lv_has ls 1 [(0, .ref h0)] := hl
  have oi3 := hts (.methodLink RX0 3 objectInit) (iwoX0_init (k := 0) rfl)
  have oim := hts (.instanceMethod objectInit) (iwoX0_init (k := 1) rfl)
  have oic := hts (.code objectInit ⟨#[0xb1]⟩ 1 none) (iwoX0_init (k := 2) rfl)
  have harr_int := hts (.arrayClass .int) (iwoX0_init (k := 3) rfl)
  have f11 := hts (.fieldLink RX0 11 "HiredEnemy$Annals" "lines" "[I") (iwoX0_init (k := 4) rfl)
  have inX0 : ∀ w ∈ wsX00, w ∈ wsX0_init := innX0_init_X0
  refine lv_aload_n hx hb dX0_init_0 rfl (lv_at hl 0 rfl) ?_
  refine W.objInit hx hb hown oi3 oim oic rfl (by rw [hml]; exact hl.1) rfl dX0_init_1 (Nat.le_of_ble_eq_true rfl) (Nat.le_of_ble_eq_true rfl) ?_
  refine W.eq (g2 := F0 m 4 ls []) rfl ?_
  refine lv_aload_n hx hb dX0_init_4 rfl (lv_at hl 0 rfl) ?_
  refine lv_sipush (v := 3600) hx hb dX0_init_5 (by decide) ?_
  refine he_newi hx hb harr_int hK hP hD hS hA 3600 (by decide) (by decide) (by decide) (Nat.le_of_ble_eq_true rfl) (Nat.le_of_ble_eq_true rfl) dX0_init_8 (fun q_1 H hP hD hS => ?_)
  have hP : va_P g.1 vwCl [(h0, .inr (0, [.null])), (aI g q_1 3600 (fun _ => 0))] H := hP
  have hD : va_D A [(h0, .inr (0, [.null])), (aI g q_1 3600 (fun _ => 0))] := hD
  refine W.widen (k := 1) (n := 3600) (Nat.le_of_ble_eq_true rfl) (Nat.le_of_ble_eq_true rfl) ?_
  refine va_putF (v := .ref q_1) (ty := tyX0 0) (T := TX0) (N := 1) hx hb hts inX0 tyX0 tyX0_ok nmX0 hown hK hP hD hS 0 rfl rfl 0 (by decide) f11 (fun _ h9 => h9) rfl hin rfl (by decide +kernel) rfl rfl (Nat.le_of_ble_eq_true rfl) dX0_init_10 (fun H locs hP hD hS => ?_)
  have hP : va_P g.1 vwCl [(oX0 h0 q_1), (aI g q_1 3600 (fun _ => 0))] H := hP
  have hD : va_D A [(oX0 h0 q_1), (aI g q_1 3600 (fun _ => 0))] := hD
  exact he_rv hQ hx hb hr hlk hP hD hS dX0_init_13 (Nat.le_of_ble_eq_true rfl) (Nat.le_of_ble_eq_true rfl) (q_1) (rfl) (trivial)
set_option maxHeartbeats 4000000 in
set_option maxRecDepth 100000 in
theorem c_X1_init (l : Launch) (g : he_G) (h0 : Nat)  : he_V l yX1_init wsX1_init 1 12 3 9 g [.ref h0] [(h0, .inr (1, [.null, .null, .null, .int 0, .int 0]))] (fun (u : Nat × Nat × Nat) => True) (fun (u : Nat × Nat × Nat) => [(oX1 h0 u.1 u.2.1 u.2.2 0 0), (aI g u.1 3 (fun _ => 0)), (aI g u.2.1 3 (fun _ => 0)), (aI g u.2.2 3 (fun _ => 0))]) := by
  refine he_begin (l := l) (g := g) (y := yX1_init) (wl := wsX1_init) (fr := 1) (lo := 12) (mc := 3) (ms := 9) (av := [.ref h0]) (ws := [(h0, .inr (1, [.null, .null, .null, .int 0, .int 0]))]) (cc := cX1_init) (maxL := 1) (ret := none) (fun A => va_Qv (fun (u : Nat × Nat × Nat) => True) (fun u t => he_post g A ((fun (u : Nat × Nat × Nat) => [(oX1 h0 u.1 u.2.1 u.2.2 0 0), (aI g u.1 3 (fun _ => 0)), (aI g u.2.1 3 (fun _ => 0)), (aI g u.2.2 3 (fun _ => 0))]) u) t) A) (by decide) rfl (Nat.le_of_ble_eq_true rfl) ?_
  intro p e s m args below meth c A ls H locs Q hQ hB
  obtain ⟨hx, hb, hr, hml, hown, hts, hlk, hin, hP, hK, hD, hS, hA, hE, hl⟩ := hB
  have hl : lv_has ls 1 [(0, .ref h0)] := hl
  have oi5 := hts (.methodLink RX1 5 objectInit) (iwoX1_init (k := 0) rfl)
  have oim := hts (.instanceMethod objectInit) (iwoX1_init (k := 1) rfl)
  have oic := hts (.code objectInit ⟨#[0xb1]⟩ 1 none) (iwoX1_init (k := 2) rfl)
  have harr_int := hts (.arrayClass .int) (iwoX1_init (k := 3) rfl)
  have f11 := hts (.fieldLink RX1 11 "HiredEnemy$Battle" "worth" "[I") (iwoX1_init (k := 4) rfl)
  have inX1 : ∀ w ∈ wsX10, w ∈ wsX1_init := innX1_init_X1
  have f15 := hts (.fieldLink RX1 15 "HiredEnemy$Battle" "held" "[I") (iwoX1_init (k := 5) rfl)
  have f18 := hts (.fieldLink RX1 18 "HiredEnemy$Battle" "put" "[I") (iwoX1_init (k := 6) rfl)
  refine lv_aload_n hx hb dX1_init_0 rfl (lv_at hl 0 rfl) ?_
  refine W.objInit hx hb hown oi5 oim oic rfl (by rw [hml]; exact hl.1) rfl dX1_init_1 (Nat.le_of_ble_eq_true rfl) (Nat.le_of_ble_eq_true rfl) ?_
  refine W.eq (g2 := F0 m 4 ls []) rfl ?_
  refine lv_aload_n hx hb dX1_init_4 rfl (lv_at hl 0 rfl) ?_
  refine lv_iconst (v := 3) hx hb dX1_init_5 (by decide) ?_
  refine he_newi hx hb harr_int hK hP hD hS hA 3 (by decide) (by decide) (by decide) (Nat.le_of_ble_eq_true rfl) (Nat.le_of_ble_eq_true rfl) dX1_init_6 (fun q_1 H hP hD hS => ?_)
  have hP : va_P g.1 vwCl [(h0, .inr (1, [.null, .null, .null, .int 0, .int 0])), (aI g q_1 3 (fun _ => 0))] H := hP
  have hD : va_D A [(h0, .inr (1, [.null, .null, .null, .int 0, .int 0])), (aI g q_1 3 (fun _ => 0))] := hD
  refine W.widen (k := 1) (n := 3) (Nat.le_of_ble_eq_true rfl) (Nat.le_of_ble_eq_true rfl) ?_
  refine va_putF (v := .ref q_1) (ty := tyX1 0) (T := TX1) (N := 5) hx hb hts inX1 tyX1 tyX1_ok nmX1 hown hK hP hD hS 0 rfl rfl 0 (by decide) f11 (fun _ h9 => h9) rfl hin rfl (by decide +kernel) rfl rfl (Nat.le_of_ble_eq_true rfl) dX1_init_8 (fun H locs hP hD hS => ?_)
  have hP : va_P g.1 vwCl [(h0, .inr (1, [.ref q_1, .null, .null, .int 0, .int 0])), (aI g q_1 3 (fun _ => 0))] H := hP
  have hD : va_D A [(h0, .inr (1, [.ref q_1, .null, .null, .int 0, .int 0])), (aI g q_1 3 (fun _ => 0))] := hD
  refine lv_aload_n hx hb dX1_init_11 rfl (lv_at hl 0 rfl) ?_
  refine lv_iconst (v := 3) hx hb dX1_init_12 (by decide) ?_
  refine he_newi hx hb harr_int hK hP hD hS hA 3 (by decide) (by decide) (by decide) (Nat.le_of_ble_eq_true rfl) (Nat.le_of_ble_eq_true rfl) dX1_init_13 (fun q_2 H hP hD hS => ?_)
  have hP : va_P g.1 vwCl [(h0, .inr (1, [.ref q_1, .null, .null, .int 0, .int 0])), (aI g q_1 3 (fun _ => 0)), (aI g q_2 3 (fun _ => 0))] H := hP
  have hD : va_D A [(h0, .inr (1, [.ref q_1, .null, .null, .int 0, .int 0])), (aI g q_1 3 (fun _ => 0)), (aI g q_2 3 (fun _ => 0))] := hD
  refine W.widen (k := 2) (n := 6) (Nat.le_of_ble_eq_true rfl) (Nat.le_of_ble_eq_true rfl) ?_
  refine va_putF (v := .ref q_2) (ty := tyX1 1) (T := TX1) (N := 5) hx hb hts inX1 tyX1 tyX1_ok nmX1 hown hK hP hD hS 0 rfl rfl 1 (by decide) f15 (fun _ h9 => h9) rfl hin rfl (by decide +kernel) rfl rfl (Nat.le_of_ble_eq_true rfl) dX1_init_15 (fun H locs hP hD hS => ?_)
  have hP : va_P g.1 vwCl [(h0, .inr (1, [.ref q_1, .ref q_2, .null, .int 0, .int 0])), (aI g q_1 3 (fun _ => 0)), (aI g q_2 3 (fun _ => 0))] H := hP
  have hD : va_D A [(h0, .inr (1, [.ref q_1, .ref q_2, .null, .int 0, .int 0])), (aI g q_1 3 (fun _ => 0)), (aI g q_2 3 (fun _ => 0))] := hD
  refine lv_aload_n hx hb dX1_init_18 rfl (lv_at hl 0 rfl) ?_
  refine lv_iconst (v := 3) hx hb dX1_init_19 (by decide) ?_
  refine he_newi hx hb harr_int hK hP hD hS hA 3 (by decide) (by decide) (by decide) (Nat.le_of_ble_eq_true rfl) (Nat.le_of_ble_eq_true rfl) dX1_init_20 (fun q_3 H hP hD hS => ?_)
  have hP : va_P g.1 vwCl [(h0, .inr (1, [.ref q_1, .ref q_2, .null, .int 0, .int 0])), (aI g q_1 3 (fun _ => 0)), (aI g q_2 3 (fun _ => 0)), (aI g q_3 3 (fun _ => 0))] H := hP
  have hD : va_D A [(h0, .inr (1, [.ref q_1, .ref q_2, .null, .int 0, .int 0])), (aI g q_1 3 (fun _ => 0)), (aI g q_2 3 (fun _ => 0)), (aI g q_3 3 (fun _ => 0))] := hD
  refine W.widen (k := 3) (n := 9) (Nat.le_of_ble_eq_true rfl) (Nat.le_of_ble_eq_true rfl) ?_
  refine va_putF (v := .ref q_3) (ty := tyX1 2) (T := TX1) (N := 5) hx hb hts inX1 tyX1 tyX1_ok nmX1 hown hK hP hD hS 0 rfl rfl 2 (by decide) f18 (fun _ h9 => h9) rfl hin rfl (by decide +kernel) rfl rfl (Nat.le_of_ble_eq_true rfl) dX1_init_22 (fun H locs hP hD hS => ?_)
  have hP : va_P g.1 vwCl [(oX1 h0 q_1 q_2 q_3 0 0), (aI g q_1 3 (fun _ => 0)), (aI g q_2 3 (fun _ => 0)), (aI g q_3 3 (fun _ => 0))] H := hP
  have hD : va_D A [(oX1 h0 q_1 q_2 q_3 0 0), (aI g q_1 3 (fun _ => 0)), (aI g q_2 3 (fun _ => 0)), (aI g q_3 3 (fun _ => 0))] := hD
  exact he_rv hQ hx hb hr hlk hP hD hS dX1_init_25 (Nat.le_of_ble_eq_true rfl) (Nat.le_of_ble_eq_true rfl) ((q_1, q_2, q_3)) (rfl) (trivial)
set_option maxHeartbeats 4000000 in
set_option maxRecDepth 100000 in
theorem c_X2_init (l : Launch) (g : he_G) (h0 : Nat)  : he_V l yX2_init wsX2_init 1 12 2 8 g [.ref h0] [(h0, .inr (2, [.null, .null, .int 0, .int 0, .long 0, .long 0, .int 0]))] (fun (u : Nat × Nat) => True) (fun (u : Nat × Nat) => [(oX2 h0 u.1 u.2 1 1 1 1 0), (aI g u.1 4 (upd (upd (upd (upd (fun _ => 0) 0 8) 1 8) 2 8) 3 8)), (aI g u.2 4 (upd (upd (upd (upd (fun _ => 0) 0 8) 1 8) 2 8) 3 8))]) := by
  refine he_begin (l := l) (g := g) (y := yX2_init) (wl := wsX2_init) (fr := 1) (lo := 12) (mc := 2) (ms := 8) (av := [.ref h0]) (ws := [(h0, .inr (2, [.null, .null, .int 0, .int 0, .long 0, .long 0, .int 0]))]) (cc := cX2_init) (maxL := 1) (ret := none) (fun A => va_Qv (fun (u : Nat × Nat) => True) (fun u t => he_post g A ((fun (u : Nat × Nat) => [(oX2 h0 u.1 u.2 1 1 1 1 0), (aI g u.1 4 (upd (upd (upd (upd (fun _ => 0) 0 8) 1 8) 2 8) 3 8)), (aI g u.2 4 (upd (upd (upd (upd (fun _ => 0) 0 8) 1 8) 2 8) 3 8))]) u) t) A) (by decide) rfl (Nat.le_of_ble_eq_true rfl) ?_
  intro p e s m args below meth c A ls H locs Q hQ hB
  obtain ⟨hx, hb, hr, hml, hown, hts, hlk, hin, hP, hK, hD, hS, hA, hE, hl⟩ := hB
  have hl : lv_has ls 1 [(0, .ref h0)] := hl
  have oi1 := hts (.methodLink RX2 1 objectInit) (iwoX2_init (k := 0) rfl)
  have oim := hts (.instanceMethod objectInit) (iwoX2_init (k := 1) rfl)
  have oic := hts (.code objectInit ⟨#[0xb1]⟩ 1 none) (iwoX2_init (k := 2) rfl)
  have harr_int := hts (.arrayClass .int) (iwoX2_init (k := 3) rfl)
  have f7 := hts (.fieldLink RX2 7 "HiredEnemy$Belief" "ifReal" "[I") (iwoX2_init (k := 4) rfl)
  have inX2 : ∀ w ∈ wsX20, w ∈ wsX2_init := innX2_init_X2
  have f13 := hts (.fieldLink RX2 13 "HiredEnemy$Belief" "ifHired" "[I") (iwoX2_init (k := 5) rfl)
  have f16 := hts (.fieldLink RX2 16 "HiredEnemy$Belief" "firstReal" "I") (iwoX2_init (k := 6) rfl)
  have f20 := hts (.fieldLink RX2 20 "HiredEnemy$Belief" "firstHired" "I") (iwoX2_init (k := 7) rfl)
  have f23 := hts (.fieldLink RX2 23 "HiredEnemy$Belief" "real" "J") (iwoX2_init (k := 8) rfl)
  have f27 := hts (.fieldLink RX2 27 "HiredEnemy$Belief" "hired" "J") (iwoX2_init (k := 9) rfl)
  refine lv_aload_n hx hb dX2_init_0 rfl (lv_at hl 0 rfl) ?_
  refine W.objInit hx hb hown oi1 oim oic rfl (by rw [hml]; exact hl.1) rfl dX2_init_1 (Nat.le_of_ble_eq_true rfl) (Nat.le_of_ble_eq_true rfl) ?_
  refine W.eq (g2 := F0 m 4 ls []) rfl ?_
  refine lv_aload_n hx hb dX2_init_4 rfl (lv_at hl 0 rfl) ?_
  refine lv_iconst (v := 4) hx hb dX2_init_5 (by decide) ?_
  refine he_newi hx hb harr_int hK hP hD hS hA 4 (by decide) (by decide) (by decide) (Nat.le_of_ble_eq_true rfl) (Nat.le_of_ble_eq_true rfl) dX2_init_6 (fun q_1 H hP hD hS => ?_)
  have hP : va_P g.1 vwCl [(h0, .inr (2, [.null, .null, .int 0, .int 0, .long 0, .long 0, .int 0])), (aI g q_1 4 (fun _ => 0))] H := hP
  have hD : va_D A [(h0, .inr (2, [.null, .null, .int 0, .int 0, .long 0, .long 0, .int 0])), (aI g q_1 4 (fun _ => 0))] := hD
  refine W.widen (k := 1) (n := 4) (Nat.le_of_ble_eq_true rfl) (Nat.le_of_ble_eq_true rfl) ?_
  refine lv_dup hx hb dX2_init_8 rfl ?_
  refine lv_iconst (v := 0) hx hb dX2_init_9 (by decide) ?_
  refine lv_bipush (v := 8) hx hb dX2_init_10 (by decide) ?_
  refine he_iast hx hb hK hP hD hS 1 rfl (0) (by decide) (by decide) (by first | decide | assumption) dX2_init_12 (fun H locs hP hD hS => ?_)
  have hP : va_P g.1 vwCl [(h0, .inr (2, [.null, .null, .int 0, .int 0, .long 0, .long 0, .int 0])), (aI g q_1 4 (upd (fun _ => 0) 0 8))] H := hP
  have hD : va_D A [(h0, .inr (2, [.null, .null, .int 0, .int 0, .long 0, .long 0, .int 0])), (aI g q_1 4 (upd (fun _ => 0) 0 8))] := hD
  refine lv_dup hx hb dX2_init_13 rfl ?_
  refine lv_iconst (v := 1) hx hb dX2_init_14 (by decide) ?_
  refine lv_bipush (v := 8) hx hb dX2_init_15 (by decide) ?_
  refine he_iast hx hb hK hP hD hS 1 rfl (1) (by decide) (by decide) (by first | decide | assumption) dX2_init_17 (fun H locs hP hD hS => ?_)
  have hP : va_P g.1 vwCl [(h0, .inr (2, [.null, .null, .int 0, .int 0, .long 0, .long 0, .int 0])), (aI g q_1 4 (upd (upd (fun _ => 0) 0 8) 1 8))] H := hP
  have hD : va_D A [(h0, .inr (2, [.null, .null, .int 0, .int 0, .long 0, .long 0, .int 0])), (aI g q_1 4 (upd (upd (fun _ => 0) 0 8) 1 8))] := hD
  refine lv_dup hx hb dX2_init_18 rfl ?_
  refine lv_iconst (v := 2) hx hb dX2_init_19 (by decide) ?_
  refine lv_bipush (v := 8) hx hb dX2_init_20 (by decide) ?_
  refine he_iast hx hb hK hP hD hS 1 rfl (2) (by decide) (by decide) (by first | decide | assumption) dX2_init_22 (fun H locs hP hD hS => ?_)
  have hP : va_P g.1 vwCl [(h0, .inr (2, [.null, .null, .int 0, .int 0, .long 0, .long 0, .int 0])), (aI g q_1 4 (upd (upd (upd (fun _ => 0) 0 8) 1 8) 2 8))] H := hP
  have hD : va_D A [(h0, .inr (2, [.null, .null, .int 0, .int 0, .long 0, .long 0, .int 0])), (aI g q_1 4 (upd (upd (upd (fun _ => 0) 0 8) 1 8) 2 8))] := hD
  refine lv_dup hx hb dX2_init_23 rfl ?_
  refine lv_iconst (v := 3) hx hb dX2_init_24 (by decide) ?_
  refine lv_bipush (v := 8) hx hb dX2_init_25 (by decide) ?_
  refine he_iast hx hb hK hP hD hS 1 rfl (3) (by decide) (by decide) (by first | decide | assumption) dX2_init_27 (fun H locs hP hD hS => ?_)
  have hP : va_P g.1 vwCl [(h0, .inr (2, [.null, .null, .int 0, .int 0, .long 0, .long 0, .int 0])), (aI g q_1 4 (upd (upd (upd (upd (fun _ => 0) 0 8) 1 8) 2 8) 3 8))] H := hP
  have hD : va_D A [(h0, .inr (2, [.null, .null, .int 0, .int 0, .long 0, .long 0, .int 0])), (aI g q_1 4 (upd (upd (upd (upd (fun _ => 0) 0 8) 1 8) 2 8) 3 8))] := hD
  refine va_putF (v := .ref q_1) (ty := tyX2 0) (T := TX2) (N := 7) hx hb hts inX2 tyX2 tyX2_ok nmX2 hown hK hP hD hS 0 rfl rfl 0 (by decide) f7 (fun _ h9 => h9) rfl hin rfl (by decide +kernel) rfl rfl (Nat.le_of_ble_eq_true rfl) dX2_init_28 (fun H locs hP hD hS => ?_)
  have hP : va_P g.1 vwCl [(h0, .inr (2, [.ref q_1, .null, .int 0, .int 0, .long 0, .long 0, .int 0])), (aI g q_1 4 (upd (upd (upd (upd (fun _ => 0) 0 8) 1 8) 2 8) 3 8))] H := hP
  have hD : va_D A [(h0, .inr (2, [.ref q_1, .null, .int 0, .int 0, .long 0, .long 0, .int 0])), (aI g q_1 4 (upd (upd (upd (upd (fun _ => 0) 0 8) 1 8) 2 8) 3 8))] := hD
  refine lv_aload_n hx hb dX2_init_31 rfl (lv_at hl 0 rfl) ?_
  refine lv_iconst (v := 4) hx hb dX2_init_32 (by decide) ?_
  refine he_newi hx hb harr_int hK hP hD hS hA 4 (by decide) (by decide) (by decide) (Nat.le_of_ble_eq_true rfl) (Nat.le_of_ble_eq_true rfl) dX2_init_33 (fun q_2 H hP hD hS => ?_)
  have hP : va_P g.1 vwCl [(h0, .inr (2, [.ref q_1, .null, .int 0, .int 0, .long 0, .long 0, .int 0])), (aI g q_1 4 (upd (upd (upd (upd (fun _ => 0) 0 8) 1 8) 2 8) 3 8)), (aI g q_2 4 (fun _ => 0))] H := hP
  have hD : va_D A [(h0, .inr (2, [.ref q_1, .null, .int 0, .int 0, .long 0, .long 0, .int 0])), (aI g q_1 4 (upd (upd (upd (upd (fun _ => 0) 0 8) 1 8) 2 8) 3 8)), (aI g q_2 4 (fun _ => 0))] := hD
  refine W.widen (k := 2) (n := 8) (Nat.le_of_ble_eq_true rfl) (Nat.le_of_ble_eq_true rfl) ?_
  refine lv_dup hx hb dX2_init_35 rfl ?_
  refine lv_iconst (v := 0) hx hb dX2_init_36 (by decide) ?_
  refine lv_bipush (v := 8) hx hb dX2_init_37 (by decide) ?_
  refine he_iast hx hb hK hP hD hS 2 rfl (0) (by decide) (by decide) (by first | decide | assumption) dX2_init_39 (fun H locs hP hD hS => ?_)
  have hP : va_P g.1 vwCl [(h0, .inr (2, [.ref q_1, .null, .int 0, .int 0, .long 0, .long 0, .int 0])), (aI g q_1 4 (upd (upd (upd (upd (fun _ => 0) 0 8) 1 8) 2 8) 3 8)), (aI g q_2 4 (upd (fun _ => 0) 0 8))] H := hP
  have hD : va_D A [(h0, .inr (2, [.ref q_1, .null, .int 0, .int 0, .long 0, .long 0, .int 0])), (aI g q_1 4 (upd (upd (upd (upd (fun _ => 0) 0 8) 1 8) 2 8) 3 8)), (aI g q_2 4 (upd (fun _ => 0) 0 8))] := hD
  refine lv_dup hx hb dX2_init_40 rfl ?_
  refine lv_iconst (v := 1) hx hb dX2_init_41 (by decide) ?_
  refine lv_bipush (v := 8) hx hb dX2_init_42 (by decide) ?_
  refine he_iast hx hb hK hP hD hS 2 rfl (1) (by decide) (by decide) (by first | decide | assumption) dX2_init_44 (fun H locs hP hD hS => ?_)
  have hP : va_P g.1 vwCl [(h0, .inr (2, [.ref q_1, .null, .int 0, .int 0, .long 0, .long 0, .int 0])), (aI g q_1 4 (upd (upd (upd (upd (fun _ => 0) 0 8) 1 8) 2 8) 3 8)), (aI g q_2 4 (upd (upd (fun _ => 0) 0 8) 1 8))] H := hP
  have hD : va_D A [(h0, .inr (2, [.ref q_1, .null, .int 0, .int 0, .long 0, .long 0, .int 0])), (aI g q_1 4 (upd (upd (upd (upd (fun _ => 0) 0 8) 1 8) 2 8) 3 8)), (aI g q_2 4 (upd (upd (fun _ => 0) 0 8) 1 8))] := hD
  refine lv_dup hx hb dX2_init_45 rfl ?_
  refine lv_iconst (v := 2) hx hb dX2_init_46 (by decide) ?_
  refine lv_bipush (v := 8) hx hb dX2_init_47 (by decide) ?_
  refine he_iast hx hb hK hP hD hS 2 rfl (2) (by decide) (by decide) (by first | decide | assumption) dX2_init_49 (fun H locs hP hD hS => ?_)
  have hP : va_P g.1 vwCl [(h0, .inr (2, [.ref q_1, .null, .int 0, .int 0, .long 0, .long 0, .int 0])), (aI g q_1 4 (upd (upd (upd (upd (fun _ => 0) 0 8) 1 8) 2 8) 3 8)), (aI g q_2 4 (upd (upd (upd (fun _ => 0) 0 8) 1 8) 2 8))] H := hP
  have hD : va_D A [(h0, .inr (2, [.ref q_1, .null, .int 0, .int 0, .long 0, .long 0, .int 0])), (aI g q_1 4 (upd (upd (upd (upd (fun _ => 0) 0 8) 1 8) 2 8) 3 8)), (aI g q_2 4 (upd (upd (upd (fun _ => 0) 0 8) 1 8) 2 8))] := hD
  refine lv_dup hx hb dX2_init_50 rfl ?_
  refine lv_iconst (v := 3) hx hb dX2_init_51 (by decide) ?_
  refine lv_bipush (v := 8) hx hb dX2_init_52 (by decide) ?_
  refine he_iast hx hb hK hP hD hS 2 rfl (3) (by decide) (by decide) (by first | decide | assumption) dX2_init_54 (fun H locs hP hD hS => ?_)
  have hP : va_P g.1 vwCl [(h0, .inr (2, [.ref q_1, .null, .int 0, .int 0, .long 0, .long 0, .int 0])), (aI g q_1 4 (upd (upd (upd (upd (fun _ => 0) 0 8) 1 8) 2 8) 3 8)), (aI g q_2 4 (upd (upd (upd (upd (fun _ => 0) 0 8) 1 8) 2 8) 3 8))] H := hP
  have hD : va_D A [(h0, .inr (2, [.ref q_1, .null, .int 0, .int 0, .long 0, .long 0, .int 0])), (aI g q_1 4 (upd (upd (upd (upd (fun _ => 0) 0 8) 1 8) 2 8) 3 8)), (aI g q_2 4 (upd (upd (upd (upd (fun _ => 0) 0 8) 1 8) 2 8) 3 8))] := hD
  refine va_putF (v := .ref q_2) (ty := tyX2 1) (T := TX2) (N := 7) hx hb hts inX2 tyX2 tyX2_ok nmX2 hown hK hP hD hS 0 rfl rfl 1 (by decide) f13 (fun _ h9 => h9) rfl hin rfl (by decide +kernel) rfl rfl (Nat.le_of_ble_eq_true rfl) dX2_init_55 (fun H locs hP hD hS => ?_)
  have hP : va_P g.1 vwCl [(oX2 h0 q_1 q_2 0 0 0 0 0), (aI g q_1 4 (upd (upd (upd (upd (fun _ => 0) 0 8) 1 8) 2 8) 3 8)), (aI g q_2 4 (upd (upd (upd (upd (fun _ => 0) 0 8) 1 8) 2 8) 3 8))] H := hP
  have hD : va_D A [(oX2 h0 q_1 q_2 0 0 0 0 0), (aI g q_1 4 (upd (upd (upd (upd (fun _ => 0) 0 8) 1 8) 2 8) 3 8)), (aI g q_2 4 (upd (upd (upd (upd (fun _ => 0) 0 8) 1 8) 2 8) 3 8))] := hD
  refine lv_aload_n hx hb dX2_init_58 rfl (lv_at hl 0 rfl) ?_
  refine lv_iconst (v := 1) hx hb dX2_init_59 (by decide) ?_
  refine va_put (v := .int 1) (ty := .int) (T := TX2) (N := 7) hx hb hts inX2 tyX2 tyX2_ok nmX2 hown hK hP hD hS 0 rfl rfl 2 (by decide) f16 (fun _ h9 => h9) rfl (by decide +kernel) rfl rfl (Nat.le_of_ble_eq_true rfl) dX2_init_60 (fun H locs hP hD hS => ?_)
  have hP : va_P g.1 vwCl [(oX2 h0 q_1 q_2 1 0 0 0 0), (aI g q_1 4 (upd (upd (upd (upd (fun _ => 0) 0 8) 1 8) 2 8) 3 8)), (aI g q_2 4 (upd (upd (upd (upd (fun _ => 0) 0 8) 1 8) 2 8) 3 8))] H := hP
  have hD : va_D A [(oX2 h0 q_1 q_2 1 0 0 0 0), (aI g q_1 4 (upd (upd (upd (upd (fun _ => 0) 0 8) 1 8) 2 8) 3 8)), (aI g q_2 4 (upd (upd (upd (upd (fun _ => 0) 0 8) 1 8) 2 8) 3 8))] := hD
  refine lv_aload_n hx hb dX2_init_63 rfl (lv_at hl 0 rfl) ?_
  refine lv_iconst (v := 1) hx hb dX2_init_64 (by decide) ?_
  refine va_put (v := .int 1) (ty := .int) (T := TX2) (N := 7) hx hb hts inX2 tyX2 tyX2_ok nmX2 hown hK hP hD hS 0 rfl rfl 3 (by decide) f20 (fun _ h9 => h9) rfl (by decide +kernel) rfl rfl (Nat.le_of_ble_eq_true rfl) dX2_init_65 (fun H locs hP hD hS => ?_)
  have hP : va_P g.1 vwCl [(oX2 h0 q_1 q_2 1 1 0 0 0), (aI g q_1 4 (upd (upd (upd (upd (fun _ => 0) 0 8) 1 8) 2 8) 3 8)), (aI g q_2 4 (upd (upd (upd (upd (fun _ => 0) 0 8) 1 8) 2 8) 3 8))] H := hP
  have hD : va_D A [(oX2 h0 q_1 q_2 1 1 0 0 0), (aI g q_1 4 (upd (upd (upd (upd (fun _ => 0) 0 8) 1 8) 2 8) 3 8)), (aI g q_2 4 (upd (upd (upd (upd (fun _ => 0) 0 8) 1 8) 2 8) 3 8))] := hD
  refine lv_aload_n hx hb dX2_init_68 rfl (lv_at hl 0 rfl) ?_
  refine lv_lconst (v := 1) hx hb dX2_init_69 (by decide) ?_
  refine va_put (v := .long 1) (ty := .long) (T := TX2) (N := 7) hx hb hts inX2 tyX2 tyX2_ok nmX2 hown hK hP hD hS 0 rfl rfl 4 (by decide) f23 (fun _ h9 => h9) rfl (by decide +kernel) rfl rfl (Nat.le_of_ble_eq_true rfl) dX2_init_70 (fun H locs hP hD hS => ?_)
  have hP : va_P g.1 vwCl [(oX2 h0 q_1 q_2 1 1 1 0 0), (aI g q_1 4 (upd (upd (upd (upd (fun _ => 0) 0 8) 1 8) 2 8) 3 8)), (aI g q_2 4 (upd (upd (upd (upd (fun _ => 0) 0 8) 1 8) 2 8) 3 8))] H := hP
  have hD : va_D A [(oX2 h0 q_1 q_2 1 1 1 0 0), (aI g q_1 4 (upd (upd (upd (upd (fun _ => 0) 0 8) 1 8) 2 8) 3 8)), (aI g q_2 4 (upd (upd (upd (upd (fun _ => 0) 0 8) 1 8) 2 8) 3 8))] := hD
  refine lv_aload_n hx hb dX2_init_73 rfl (lv_at hl 0 rfl) ?_
  refine lv_lconst (v := 1) hx hb dX2_init_74 (by decide) ?_
  refine va_put (v := .long 1) (ty := .long) (T := TX2) (N := 7) hx hb hts inX2 tyX2 tyX2_ok nmX2 hown hK hP hD hS 0 rfl rfl 5 (by decide) f27 (fun _ h9 => h9) rfl (by decide +kernel) rfl rfl (Nat.le_of_ble_eq_true rfl) dX2_init_75 (fun H locs hP hD hS => ?_)
  have hP : va_P g.1 vwCl [(oX2 h0 q_1 q_2 1 1 1 1 0), (aI g q_1 4 (upd (upd (upd (upd (fun _ => 0) 0 8) 1 8) 2 8) 3 8)), (aI g q_2 4 (upd (upd (upd (upd (fun _ => 0) 0 8) 1 8) 2 8) 3 8))] H := hP
  have hD : va_D A [(oX2 h0 q_1 q_2 1 1 1 1 0), (aI g q_1 4 (upd (upd (upd (upd (fun _ => 0) 0 8) 1 8) 2 8) 3 8)), (aI g q_2 4 (upd (upd (upd (upd (fun _ => 0) 0 8) 1 8) 2 8) 3 8))] := hD
  exact he_rv hQ hx hb hr hlk hP hD hS dX2_init_78 (Nat.le_of_ble_eq_true rfl) (Nat.le_of_ble_eq_true rfl) ((q_1, q_2)) (rfl) (trivial)
set_option maxHeartbeats 4000000 in
set_option maxRecDepth 100000 in
theorem c_X3_init (l : Launch) (g : he_G) (h0 : Nat)  : he_V l yX3_init wsX3_init 1 12 2 75 g [.ref h0] [(h0, .inr (3, [.null, .null]))] (fun (u : Nat × Nat) => True) (fun (u : Nat × Nat) => [(oX3 h0 u.1 u.2), (aI g u.1 36 (fun _ => 0)), (aI g u.2 39 (fun _ => 0))]) := by
  refine he_begin (l := l) (g := g) (y := yX3_init) (wl := wsX3_init) (fr := 1) (lo := 12) (mc := 2) (ms := 75) (av := [.ref h0]) (ws := [(h0, .inr (3, [.null, .null]))]) (cc := cX3_init) (maxL := 1) (ret := none) (fun A => va_Qv (fun (u : Nat × Nat) => True) (fun u t => he_post g A ((fun (u : Nat × Nat) => [(oX3 h0 u.1 u.2), (aI g u.1 36 (fun _ => 0)), (aI g u.2 39 (fun _ => 0))]) u) t) A) (by decide) rfl (Nat.le_of_ble_eq_true rfl) ?_
  intro p e s m args below meth c A ls H locs Q hQ hB
  obtain ⟨hx, hb, hr, hml, hown, hts, hlk, hin, hP, hK, hD, hS, hA, hE, hl⟩ := hB
  have hl : lv_has ls 1 [(0, .ref h0)] := hl
  have oi1 := hts (.methodLink RX3 1 objectInit) (iwoX3_init (k := 0) rfl)
  have oim := hts (.instanceMethod objectInit) (iwoX3_init (k := 1) rfl)
  have oic := hts (.code objectInit ⟨#[0xb1]⟩ 1 none) (iwoX3_init (k := 2) rfl)
  have harr_int := hts (.arrayClass .int) (iwoX3_init (k := 3) rfl)
  have f9 := hts (.fieldLink RX3 9 "HiredEnemy$Bids" "coins" "[I") (iwoX3_init (k := 4) rfl)
  have inX3 : ∀ w ∈ wsX30, w ∈ wsX3_init := innX3_init_X3
  have f13 := hts (.fieldLink RX3 13 "HiredEnemy$Bids" "rest" "[I") (iwoX3_init (k := 5) rfl)
  refine lv_aload_n hx hb dX3_init_0 rfl (lv_at hl 0 rfl) ?_
  refine W.objInit hx hb hown oi1 oim oic rfl (by rw [hml]; exact hl.1) rfl dX3_init_1 (Nat.le_of_ble_eq_true rfl) (Nat.le_of_ble_eq_true rfl) ?_
  refine W.eq (g2 := F0 m 4 ls []) rfl ?_
  refine lv_aload_n hx hb dX3_init_4 rfl (lv_at hl 0 rfl) ?_
  refine lv_bipush (v := 36) hx hb dX3_init_5 (by decide) ?_
  refine he_newi hx hb harr_int hK hP hD hS hA 36 (by decide) (by decide) (by decide) (Nat.le_of_ble_eq_true rfl) (Nat.le_of_ble_eq_true rfl) dX3_init_7 (fun q_1 H hP hD hS => ?_)
  have hP : va_P g.1 vwCl [(h0, .inr (3, [.null, .null])), (aI g q_1 36 (fun _ => 0))] H := hP
  have hD : va_D A [(h0, .inr (3, [.null, .null])), (aI g q_1 36 (fun _ => 0))] := hD
  refine W.widen (k := 1) (n := 36) (Nat.le_of_ble_eq_true rfl) (Nat.le_of_ble_eq_true rfl) ?_
  refine va_putF (v := .ref q_1) (ty := tyX3 0) (T := TX3) (N := 2) hx hb hts inX3 tyX3 tyX3_ok nmX3 hown hK hP hD hS 0 rfl rfl 0 (by decide) f9 (fun _ h9 => h9) rfl hin rfl (by decide +kernel) rfl rfl (Nat.le_of_ble_eq_true rfl) dX3_init_9 (fun H locs hP hD hS => ?_)
  have hP : va_P g.1 vwCl [(h0, .inr (3, [.ref q_1, .null])), (aI g q_1 36 (fun _ => 0))] H := hP
  have hD : va_D A [(h0, .inr (3, [.ref q_1, .null])), (aI g q_1 36 (fun _ => 0))] := hD
  refine lv_aload_n hx hb dX3_init_12 rfl (lv_at hl 0 rfl) ?_
  refine lv_bipush (v := 39) hx hb dX3_init_13 (by decide) ?_
  refine he_newi hx hb harr_int hK hP hD hS hA 39 (by decide) (by decide) (by decide) (Nat.le_of_ble_eq_true rfl) (Nat.le_of_ble_eq_true rfl) dX3_init_15 (fun q_2 H hP hD hS => ?_)
  have hP : va_P g.1 vwCl [(h0, .inr (3, [.ref q_1, .null])), (aI g q_1 36 (fun _ => 0)), (aI g q_2 39 (fun _ => 0))] H := hP
  have hD : va_D A [(h0, .inr (3, [.ref q_1, .null])), (aI g q_1 36 (fun _ => 0)), (aI g q_2 39 (fun _ => 0))] := hD
  refine W.widen (k := 2) (n := 75) (Nat.le_of_ble_eq_true rfl) (Nat.le_of_ble_eq_true rfl) ?_
  refine va_putF (v := .ref q_2) (ty := tyX3 1) (T := TX3) (N := 2) hx hb hts inX3 tyX3 tyX3_ok nmX3 hown hK hP hD hS 0 rfl rfl 1 (by decide) f13 (fun _ h9 => h9) rfl hin rfl (by decide +kernel) rfl rfl (Nat.le_of_ble_eq_true rfl) dX3_init_17 (fun H locs hP hD hS => ?_)
  have hP : va_P g.1 vwCl [(oX3 h0 q_1 q_2), (aI g q_1 36 (fun _ => 0)), (aI g q_2 39 (fun _ => 0))] H := hP
  have hD : va_D A [(oX3 h0 q_1 q_2), (aI g q_1 36 (fun _ => 0)), (aI g q_2 39 (fun _ => 0))] := hD
  exact he_rv hQ hx hb hr hlk hP hD hS dX3_init_20 (Nat.le_of_ble_eq_true rfl) (Nat.le_of_ble_eq_true rfl) ((q_1, q_2)) (rfl) (trivial)
set_option maxHeartbeats 4000000 in
set_option maxRecDepth 100000 in
theorem c_X5_init (l : Launch) (g : he_G) (h0 : Nat)  : he_V l yX5_init wsX5_init 2 32 2 42 g [.ref h0] [(h0, .inr (5, [.null, .null, .int 0]))] (fun (u : Nat × Nat) => True) (fun (u : Nat × Nat) => [(oX5 h0 u.1 u.2 0), (aI g u.1 6 (fun _ => 0)), (aI g u.2 36 (fun _ => 0))]) := by
  refine he_begin (l := l) (g := g) (y := yX5_init) (wl := wsX5_init) (fr := 2) (lo := 32) (mc := 2) (ms := 42) (av := [.ref h0]) (ws := [(h0, .inr (5, [.null, .null, .int 0]))]) (cc := cX5_init) (maxL := 1) (ret := none) (fun A => va_Qv (fun (u : Nat × Nat) => True) (fun u t => he_post g A ((fun (u : Nat × Nat) => [(oX5 h0 u.1 u.2 0), (aI g u.1 6 (fun _ => 0)), (aI g u.2 36 (fun _ => 0))]) u) t) A) (by decide) rfl (Nat.le_of_ble_eq_true rfl) ?_
  intro p e s m args below meth c A ls H locs Q hQ hB
  obtain ⟨hx, hb, hr, hml, hown, hts, hlk, hin, hP, hK, hD, hS, hA, hE, hl⟩ := hB
  have hl : lv_has ls 1 [(0, .ref h0)] := hl
  have nl3 := hE.nest (RX5, 3, yX9_init) (by decide +kernel)
  have iniX9 := hts (.initialized RX9) (iwoX5_init (k := 4) rfl)
  have im_yX9_init := hts (.instanceMethod yX9_init) (iwoX5_init (k := 3) rfl)
  have harr_int := hts (.arrayClass .int) (iwoX5_init (k := 0) rfl)
  have f11 := hts (.fieldLink RX5 11 "HiredEnemy$Pact" "said" "[I") (iwoX5_init (k := 1) rfl)
  have inX5 : ∀ w ∈ wsX50, w ∈ wsX5_init := innX5_init_X5
  have f15 := hts (.fieldLink RX5 15 "HiredEnemy$Pact" "wallByMonth" "[I") (iwoX5_init (k := 2) rfl)
  refine lv_aload_n hx hb dX5_init_0 rfl (lv_at hl 0 rfl) ?_
  refine he_cv (wc := []) (wr := [(h0, .inr (5, [.null, .null, .int 0]))]) (va_runIN (As := []) (rest := []) ⟨hx, hb, hml, hown, hts⟩ (c_X9_init l g h0 H.size) ⟨(va_cnB 0 hts gX5_init_X9_init_n3 rfl rfl rfl nl3 iniX9 (by decide +kernel) ⟨Nat.le_of_ble_eq_true rfl, Nat.le_of_ble_eq_true rfl⟩), rfl, im_yX9_init⟩ (he_preS (wc := []) hK hP hD hS hA hE [] rfl rfl) rfl rfl hl.1 rfl (lv_room (Nat.le_of_ble_eq_true rfl)) dX5_init_1 ⟨(Nat.le_of_ble_eq_true rfl), (Nat.le_of_ble_eq_true rfl)⟩) hP hD hS hA [] [0] rfl rfl rfl (by decide) (fun u_2 H locs h_3 hP hD hS => ?_)
  have hP : va_P g.1 vwCl [(h0, .inr (5, [.null, .null, .int 0]))] H := hP
  have hD : va_D A [(h0, .inr (5, [.null, .null, .int 0]))] := hD
  refine lv_aload_n hx hb dX5_init_4 rfl (lv_at hl 0 rfl) ?_
  refine lv_bipush (v := 6) hx hb dX5_init_5 (by decide) ?_
  refine he_newi hx hb harr_int hK hP hD hS hA 6 (by decide) (by decide) (by decide) (Nat.le_of_ble_eq_true rfl) (Nat.le_of_ble_eq_true rfl) dX5_init_7 (fun q_4 H hP hD hS => ?_)
  have hP : va_P g.1 vwCl [(h0, .inr (5, [.null, .null, .int 0])), (aI g q_4 6 (fun _ => 0))] H := hP
  have hD : va_D A [(h0, .inr (5, [.null, .null, .int 0])), (aI g q_4 6 (fun _ => 0))] := hD
  refine W.widen (k := 1) (n := 6) (Nat.le_of_ble_eq_true rfl) (Nat.le_of_ble_eq_true rfl) ?_
  refine va_putF (v := .ref q_4) (ty := tyX5 0) (T := TX5) (N := 3) hx hb hts inX5 tyX5 tyX5_ok nmX5 hown hK hP hD hS 0 rfl rfl 0 (by decide) f11 (fun _ h9 => h9) rfl hin rfl (by decide +kernel) rfl rfl (Nat.le_of_ble_eq_true rfl) dX5_init_9 (fun H locs hP hD hS => ?_)
  have hP : va_P g.1 vwCl [(h0, .inr (5, [.ref q_4, .null, .int 0])), (aI g q_4 6 (fun _ => 0))] H := hP
  have hD : va_D A [(h0, .inr (5, [.ref q_4, .null, .int 0])), (aI g q_4 6 (fun _ => 0))] := hD
  refine lv_aload_n hx hb dX5_init_12 rfl (lv_at hl 0 rfl) ?_
  refine lv_bipush (v := 36) hx hb dX5_init_13 (by decide) ?_
  refine he_newi hx hb harr_int hK hP hD hS hA 36 (by decide) (by decide) (by decide) (Nat.le_of_ble_eq_true rfl) (Nat.le_of_ble_eq_true rfl) dX5_init_15 (fun q_5 H hP hD hS => ?_)
  have hP : va_P g.1 vwCl [(h0, .inr (5, [.ref q_4, .null, .int 0])), (aI g q_4 6 (fun _ => 0)), (aI g q_5 36 (fun _ => 0))] H := hP
  have hD : va_D A [(h0, .inr (5, [.ref q_4, .null, .int 0])), (aI g q_4 6 (fun _ => 0)), (aI g q_5 36 (fun _ => 0))] := hD
  refine W.widen (k := 2) (n := 42) (Nat.le_of_ble_eq_true rfl) (Nat.le_of_ble_eq_true rfl) ?_
  refine va_putF (v := .ref q_5) (ty := tyX5 1) (T := TX5) (N := 3) hx hb hts inX5 tyX5 tyX5_ok nmX5 hown hK hP hD hS 0 rfl rfl 1 (by decide) f15 (fun _ h9 => h9) rfl hin rfl (by decide +kernel) rfl rfl (Nat.le_of_ble_eq_true rfl) dX5_init_17 (fun H locs hP hD hS => ?_)
  have hP : va_P g.1 vwCl [(oX5 h0 q_4 q_5 0), (aI g q_4 6 (fun _ => 0)), (aI g q_5 36 (fun _ => 0))] H := hP
  have hD : va_D A [(oX5 h0 q_4 q_5 0), (aI g q_4 6 (fun _ => 0)), (aI g q_5 36 (fun _ => 0))] := hD
  exact he_rv hQ hx hb hr hlk hP hD hS dX5_init_20 (Nat.le_of_ble_eq_true rfl) (Nat.le_of_ble_eq_true rfl) ((q_4, q_5)) (rfl) (trivial)
set_option maxHeartbeats 4000000 in
set_option maxRecDepth 100000 in
theorem c_X7_init (l : Launch) (g : he_G) (h0 : Nat)  : he_V l yX7_init wsX7_init 1 12 2 3 g [.ref h0] [(h0, .inr (7, [.null, .int 0, .int 0, .int 0, .int 0, .null]))] (fun (u : Nat × Nat) => True) (fun (u : Nat × Nat) => [(oX7 h0 u.1 0 0 0 (-1) u.2), (aB g u.1 0 (fun _ => 0)), (aI g u.2 3 (fun _ => 0))]) := by
  refine he_begin (l := l) (g := g) (y := yX7_init) (wl := wsX7_init) (fr := 1) (lo := 12) (mc := 2) (ms := 3) (av := [.ref h0]) (ws := [(h0, .inr (7, [.null, .int 0, .int 0, .int 0, .int 0, .null]))]) (cc := cX7_init) (maxL := 1) (ret := none) (fun A => va_Qv (fun (u : Nat × Nat) => True) (fun u t => he_post g A ((fun (u : Nat × Nat) => [(oX7 h0 u.1 0 0 0 (-1) u.2), (aB g u.1 0 (fun _ => 0)), (aI g u.2 3 (fun _ => 0))]) u) t) A) (by decide) rfl (Nat.le_of_ble_eq_true rfl) ?_
  intro p e s m args below meth c A ls H locs Q hQ hB
  obtain ⟨hx, hb, hr, hml, hown, hts, hlk, hin, hP, hK, hD, hS, hA, hE, hl⟩ := hB
  have hl : lv_has ls 1 [(0, .ref h0)] := hl
  have oi3 := hts (.methodLink RX7 3 objectInit) (iwoX7_init (k := 0) rfl)
  have oim := hts (.instanceMethod objectInit) (iwoX7_init (k := 1) rfl)
  have oic := hts (.code objectInit ⟨#[0xb1]⟩ 1 none) (iwoX7_init (k := 2) rfl)
  have harr_byte := hts (.arrayClass .byte) (iwoX7_init (k := 3) rfl)
  have f9 := hts (.fieldLink RX7 9 "HiredEnemy$Reader" "bytes" "[B") (iwoX7_init (k := 4) rfl)
  have inX7 : ∀ w ∈ wsX70, w ∈ wsX7_init := innX7_init_X7
  have f15 := hts (.fieldLink RX7 15 "HiredEnemy$Reader" "place" "I") (iwoX7_init (k := 5) rfl)
  have harr_int := hts (.arrayClass .int) (iwoX7_init (k := 6) rfl)
  have f19 := hts (.fieldLink RX7 19 "HiredEnemy$Reader" "numbers" "[I") (iwoX7_init (k := 7) rfl)
  refine lv_aload_n hx hb dX7_init_0 rfl (lv_at hl 0 rfl) ?_
  refine W.objInit hx hb hown oi3 oim oic rfl (by rw [hml]; exact hl.1) rfl dX7_init_1 (Nat.le_of_ble_eq_true rfl) (Nat.le_of_ble_eq_true rfl) ?_
  refine W.eq (g2 := F0 m 4 ls []) rfl ?_
  refine lv_aload_n hx hb dX7_init_4 rfl (lv_at hl 0 rfl) ?_
  refine lv_iconst (v := 0) hx hb dX7_init_5 (by decide) ?_
  refine he_newb hx hb harr_byte hK hP hD hS hA 0 (by decide) (by decide) (by decide) (Nat.le_of_ble_eq_true rfl) (Nat.le_of_ble_eq_true rfl) dX7_init_6 (fun q_1 H hP hD hS => ?_)
  have hP : va_P g.1 vwCl [(h0, .inr (7, [.null, .int 0, .int 0, .int 0, .int 0, .null])), (aB g q_1 0 (fun _ => 0))] H := hP
  have hD : va_D A [(h0, .inr (7, [.null, .int 0, .int 0, .int 0, .int 0, .null])), (aB g q_1 0 (fun _ => 0))] := hD
  refine W.widen (k := 1) (n := 0) (Nat.le_of_ble_eq_true rfl) (Nat.le_of_ble_eq_true rfl) ?_
  refine va_put (v := .ref q_1) (ty := tyX7 0) (T := TX7) (N := 6) hx hb hts inX7 tyX7 tyX7_ok nmX7 hown hK hP hD hS 0 rfl rfl 0 (by decide) f9 (fun _ h9 => h9) rfl (by decide +kernel) rfl rfl (Nat.le_of_ble_eq_true rfl) dX7_init_8 (fun H locs hP hD hS => ?_)
  have hP : va_P g.1 vwCl [(h0, .inr (7, [.ref q_1, .int 0, .int 0, .int 0, .int 0, .null])), (aB g q_1 0 (fun _ => 0))] H := hP
  have hD : va_D A [(h0, .inr (7, [.ref q_1, .int 0, .int 0, .int 0, .int 0, .null])), (aB g q_1 0 (fun _ => 0))] := hD
  refine lv_aload_n hx hb dX7_init_11 rfl (lv_at hl 0 rfl) ?_
  refine lv_iconst (v := (-1)) hx hb dX7_init_12 (by decide) ?_
  refine va_put (v := .int (-1)) (ty := .int) (T := TX7) (N := 6) hx hb hts inX7 tyX7 tyX7_ok nmX7 hown hK hP hD hS 0 rfl rfl 4 (by decide) f15 (fun _ h9 => h9) rfl (by decide +kernel) rfl rfl (Nat.le_of_ble_eq_true rfl) dX7_init_13 (fun H locs hP hD hS => ?_)
  have hP : va_P g.1 vwCl [(h0, .inr (7, [.ref q_1, .int 0, .int 0, .int 0, .int (-1), .null])), (aB g q_1 0 (fun _ => 0))] H := hP
  have hD : va_D A [(h0, .inr (7, [.ref q_1, .int 0, .int 0, .int 0, .int (-1), .null])), (aB g q_1 0 (fun _ => 0))] := hD
  refine lv_aload_n hx hb dX7_init_16 rfl (lv_at hl 0 rfl) ?_
  refine lv_iconst (v := 3) hx hb dX7_init_17 (by decide) ?_
  refine he_newi hx hb harr_int hK hP hD hS hA 3 (by decide) (by decide) (by decide) (Nat.le_of_ble_eq_true rfl) (Nat.le_of_ble_eq_true rfl) dX7_init_18 (fun q_2 H hP hD hS => ?_)
  have hP : va_P g.1 vwCl [(h0, .inr (7, [.ref q_1, .int 0, .int 0, .int 0, .int (-1), .null])), (aB g q_1 0 (fun _ => 0)), (aI g q_2 3 (fun _ => 0))] H := hP
  have hD : va_D A [(h0, .inr (7, [.ref q_1, .int 0, .int 0, .int 0, .int (-1), .null])), (aB g q_1 0 (fun _ => 0)), (aI g q_2 3 (fun _ => 0))] := hD
  refine W.widen (k := 2) (n := 3) (Nat.le_of_ble_eq_true rfl) (Nat.le_of_ble_eq_true rfl) ?_
  refine va_putF (v := .ref q_2) (ty := tyX7 5) (T := TX7) (N := 6) hx hb hts inX7 tyX7 tyX7_ok nmX7 hown hK hP hD hS 0 rfl rfl 5 (by decide) f19 (fun _ h9 => h9) rfl hin rfl (by decide +kernel) rfl rfl (Nat.le_of_ble_eq_true rfl) dX7_init_20 (fun H locs hP hD hS => ?_)
  have hP : va_P g.1 vwCl [(oX7 h0 q_1 0 0 0 (-1) q_2), (aB g q_1 0 (fun _ => 0)), (aI g q_2 3 (fun _ => 0))] H := hP
  have hD : va_D A [(oX7 h0 q_1 0 0 0 (-1) q_2), (aB g q_1 0 (fun _ => 0)), (aI g q_2 3 (fun _ => 0))] := hD
  exact he_rv hQ hx hb hr hlk hP hD hS dX7_init_23 (Nat.le_of_ble_eq_true rfl) (Nat.le_of_ble_eq_true rfl) ((q_1, q_2)) (rfl) (trivial)
set_option maxHeartbeats 4000000 in
set_option maxRecDepth 100000 in
theorem c_X6_clear (l : Launch) (g : he_G) (h0 : Nat) (q0 : Nat) (q1 : Nat) (q2 : Nat) (q3 : Nat) (w : Int32) (f0 : Nat → Int32) (f1 : Nat → Int32)  : he_V l yX6_clear wsX6_clear 0 0 0 0 g [.ref h0] [(oX6 h0 q0 q1 q2 q3 w), (aI g q0 24 f0), (aI g q1 10 f1)] (fun (u : Unit) => True) (fun (u : Unit) => [(oX6 h0 q0 q1 q2 q3 0), (aI g q0 24 (flF unF f0 24)), (aI g q1 10 (flF nrF f1 10))]) := by
  refine he_begin (l := l) (g := g) (y := yX6_clear) (wl := wsX6_clear) (fr := 0) (lo := 0) (mc := 0) (ms := 0) (av := [.ref h0]) (ws := [(oX6 h0 q0 q1 q2 q3 w), (aI g q0 24 f0), (aI g q1 10 f1)]) (cc := cX6_clear) (maxL := 2) (ret := none) (fun A => va_Qv (fun (u : Unit) => True) (fun u t => he_post g A ((fun (u : Unit) => [(oX6 h0 q0 q1 q2 q3 0), (aI g q0 24 (flF unF f0 24)), (aI g q1 10 (flF nrF f1 10))]) u) t) A) (by decide) rfl (Nat.le_of_ble_eq_true rfl) ?_
  intro p e s m args below meth c A ls H locs Q hQ hB
  obtain ⟨hx, hb, hr, hml, hown, hts, hlk, hin, hP, hK, hD, hS, hA, hE, hl⟩ := hB
  have hl : lv_has ls 2 [(0, .ref h0)] := hl
  have f30 := hts (.fieldLink RX6 30 "HiredEnemy$Plan" "walls" "I") (iwoX6_clear (k := 0) rfl)
  have inX6 : ∀ w ∈ wsX60, w ∈ wsX6_clear := innX6_clear_X6
  have f15 := hts (.fieldLink RX6 15 "HiredEnemy$Plan" "said" "[I") (iwoX6_clear (k := 1) rfl)
  have f18 := hts (.fieldLink RX6 18 "HiredEnemy$Plan" "fearByNear" "[I") (iwoX6_clear (k := 3) rfl)
  have f9 := hts (.fieldLink RX6 9 "HiredEnemy$Plan" "UNTOLD" "[I") (iwoX6_clear (k := 2) rfl)
  obtain ⟨t_un, hZ_un, hT_un⟩ := hE.1
  refine lv_aload_n hx hb dX6_clear_0 rfl (lv_at hl 0 rfl) ?_
  refine lv_iconst (v := 0) hx hb dX6_clear_1 (by decide) ?_
  refine va_put (v := .int 0) (ty := .int) (T := TX6) (N := 5) hx hb hts inX6 tyX6 tyX6_ok nmX6 hown hK hP hD hS 0 rfl rfl 4 (by decide) f30 (fun _ h9 => h9) rfl (by decide +kernel) rfl rfl (Nat.le_of_ble_eq_true rfl) dX6_clear_2 (fun H locs hP hD hS => ?_)
  have hP : va_P g.1 vwCl [(oX6 h0 q0 q1 q2 q3 0), (aI g q0 24 f0), (aI g q1 10 f1)] H := hP
  have hD : va_D A [(oX6 h0 q0 q1 q2 q3 0), (aI g q0 24 f0), (aI g q1 10 f1)] := hD
  refine lv_iconst (v := 0) hx hb dX6_clear_5 (by decide) ?_
  refine lv_istore_n (lv' := [(1, .int 0), (0, .ref h0)]) hx hb dX6_clear_6 rfl hl (by decide) rfl (fun ls hl => ?_)
  have loop7 : ∀ (n9 : Nat) (j : Nat), 24 - j < n9 → (j ≤ 24) → ∀ (H : Heap) (locs : List Loc) (ls : Array Slot), va_P g.1 vwCl [(oX6 h0 q0 q1 q2 q3 0), (aI g q0 24 (flF unF f0 j)), (aI g q1 10 f1)] H → va_D A [(oX6 h0 q0 q1 q2 q3 0), (aI g q0 24 (flF unF f0 j)), (aI g q1 10 f1)] → va_S A s.heap H locs → lv_has ls 2 [(0, .ref h0), (1, .int (nI j))] → W p l e (he_room 0 0 0 0) s m args below meth c H locs 0 0 Q (F0 m 7 ls []) := by
    intro n9
    induction n9 with
    | zero => intro j hm9; exact absurd hm9 (Nat.not_lt_zero _)
    | succ n9 ih7 =>
      intro j hm9 hj H locs ls hP hD hS hl
      refine lv_iload_n hx hb dX6_clear_7 rfl (lv_at hl 1 rfl) ?_
      refine lv_aload_n hx hb dX6_clear_8 rfl (lv_at hl 0 rfl) ?_
      refine va_get (v := .ref q0) (T := TX6) (N := 5) hx hb hts inX6 hown hK hP 0 rfl rfl 0 (by decide) f15 (fun _ h9 => h9) rfl dX6_clear_9 ?_
      refine va_alen (v := 24) hx hb hK hP 1 1 rfl rfl rfl dX6_clear_12 ?_
      refine lv_icmp_ge (tgt := 33) hx hb dX6_clear_13 (by decide) (fun c_1 => ?_) (fun c_1 => ?_)
      · have k_2 : 24 ≤ j := (he_cle (a := 24) (b := j) (by decide) rfl (by omega) (by omega)).mp c_1
        obtain rfl : j = 24 := by omega
        refine lv_iconst (v := 0) hx hb dX6_clear_33 (by decide) ?_
        refine lv_istore_n (lv' := [(1, .int 0), (0, .ref h0)]) hx hb dX6_clear_34 rfl hl (by decide) rfl (fun ls hl => ?_)
        have loop35 : ∀ (n9 : Nat) (j2 : Nat), 10 - j2 < n9 → (j2 ≤ 10) → ∀ (H : Heap) (locs : List Loc) (ls : Array Slot), va_P g.1 vwCl [(oX6 h0 q0 q1 q2 q3 0), (aI g q0 24 (flF unF f0 24)), (aI g q1 10 (flF nrF f1 j2))] H → va_D A [(oX6 h0 q0 q1 q2 q3 0), (aI g q0 24 (flF unF f0 24)), (aI g q1 10 (flF nrF f1 j2))] → va_S A s.heap H locs → lv_has ls 2 [(0, .ref h0), (1, .int (nI j2))] → W p l e (he_room 0 0 0 0) s m args below meth c H locs 0 0 Q (F0 m 35 ls []) := by
          intro n9
          induction n9 with
          | zero => intro j2 hm9; exact absurd hm9 (Nat.not_lt_zero _)
          | succ n9 ih35 =>
            intro j2 hm9 hj2 H locs ls hP hD hS hl
            refine lv_iload_n hx hb dX6_clear_35 rfl (lv_at hl 1 rfl) ?_
            refine lv_aload_n hx hb dX6_clear_36 rfl (lv_at hl 0 rfl) ?_
            refine va_get (v := .ref q1) (T := TX6) (N := 5) hx hb hts inX6 hown hK hP 0 rfl rfl 1 (by decide) f18 (fun _ h9 => h9) rfl dX6_clear_37 ?_
            refine va_alen (v := 10) hx hb hK hP 2 1 rfl rfl rfl dX6_clear_40 ?_
            refine lv_icmp_ge (tgt := 60) hx hb dX6_clear_41 (by decide) (fun c_3 => ?_) (fun c_3 => ?_)
            · have k_4 : 10 ≤ j2 := (he_cle (a := 10) (b := j2) (by decide) rfl (by omega) (by omega)).mp c_3
              obtain rfl : j2 = 10 := by omega
              exact he_rv hQ hx hb hr hlk hP hD hS dX6_clear_60 (Nat.le_of_ble_eq_true rfl) (Nat.le_of_ble_eq_true rfl) (()) (rfl) (trivial)
            · have k_5 : ¬ (10 ≤ j2) := fun h9 => c_3 ((he_cle (a := 10) (b := j2) (by decide) rfl (by omega) (by omega)).mpr h9)
              refine lv_aload_n hx hb dX6_clear_44 rfl (lv_at hl 0 rfl) ?_
              refine va_get (v := .ref q1) (T := TX6) (N := 5) hx hb hts inX6 hown hK hP 0 rfl rfl 1 (by decide) f18 (fun _ h9 => h9) rfl dX6_clear_45 ?_
              refine lv_iload_n hx hb dX6_clear_48 rfl (lv_at hl 1 rfl) ?_
              refine lv_bipush (v := 9) hx hb dX6_clear_49 (by decide) ?_
              refine lv_iload_n hx hb dX6_clear_51 rfl (lv_at hl 1 rfl) ?_
              refine lv_isub hx hb dX6_clear_52 ?_
              refine he_iast hx hb hK hP hD hS 2 rfl (j2) rfl (by first | assumption | decide | omega) (by first | decide | assumption) dX6_clear_53 (fun H locs hP hD hS => ?_)
              have hP : va_P g.1 vwCl [(oX6 h0 q0 q1 q2 q3 0), (aI g q0 24 (flF unF f0 24)), (aI g q1 10 (upd (flF nrF f1 j2) j2 (9 - (nI j2))))] H := hP
              have hD : va_D A [(oX6 h0 q0 q1 q2 q3 0), (aI g q0 24 (flF unF f0 24)), (aI g q1 10 (upd (flF nrF f1 j2) j2 (9 - (nI j2))))] := hD
              refine lv_iinc (v := nI (j2 + 1)) (lv' := [(1, .int (nI (j2 + 1))), (0, .ref h0)]) hx hb dX6_clear_54 hl (k := 1) rfl (nI_1 j2) (by decide) rfl (fun ls hl => ?_)
              refine lv_goto (tgt := 35) hx hb dX6_clear_57 (by decide) ?_
              have hP : va_P g.1 vwCl [(oX6 h0 q0 q1 q2 q3 0), (aI g q0 24 (flF unF f0 24)), (aI g q1 10 (flF nrF f1 (j2 + 1)))] H := by rw [← flF_s nrF f1 j2]; exact hP
              have hD : va_D A [(oX6 h0 q0 q1 q2 q3 0), (aI g q0 24 (flF unF f0 24)), (aI g q1 10 (flF nrF f1 (j2 + 1)))] := by rw [← flF_s nrF f1 j2]; exact hD
              exact ih35 (j2 + 1) (by omega) (by omega) _ _ _ hP hD hS (lv_sub hl [1, 0] rfl)
        have hP : va_P g.1 vwCl [(oX6 h0 q0 q1 q2 q3 0), (aI g q0 24 (flF unF f0 24)), (aI g q1 10 (flF nrF f1 0))] H := by rw [flF_0]; exact hP
        have hD : va_D A [(oX6 h0 q0 q1 q2 q3 0), (aI g q0 24 (flF unF f0 24)), (aI g q1 10 (flF nrF f1 0))] := by rw [flF_0]; exact hD
        exact loop35 ((10 - 0) + 1) 0 (Nat.lt_succ_self _) (Nat.zero_le _) _ _ _ hP hD hS (lv_sub hl [1, 0] rfl)
      · have k_6 : ¬ (24 ≤ j) := fun h9 => c_1 ((he_cle (a := 24) (b := j) (by decide) rfl (by omega) (by omega)).mpr h9)
        refine lv_aload_n hx hb dX6_clear_16 rfl (lv_at hl 0 rfl) ?_
        refine va_get (v := .ref q0) (T := TX6) (N := 5) hx hb hts inX6 hown hK hP 0 rfl rfl 0 (by decide) f15 (fun _ h9 => h9) rfl dX6_clear_17 ?_
        refine lv_iload_n hx hb dX6_clear_20 rfl (lv_at hl 1 rfl) ?_
        refine va_gets hx hb hZ_un hS hown f9 (fun _ h9 => h9) dX6_clear_21 ?_
        refine lv_iload_n hx hb dX6_clear_24 rfl (lv_at hl 1 rfl) ?_
        refine he_tald hx hb hT_un hS (j) rfl (by first | assumption | decide | omega) (by decide) (he_untold.getD j 0) rfl dX6_clear_25 ?_
        refine he_iast hx hb hK hP hD hS 1 rfl (j) rfl (by first | assumption | decide | omega) (by first | decide | assumption) dX6_clear_26 (fun H locs hP hD hS => ?_)
        have hP : va_P g.1 vwCl [(oX6 h0 q0 q1 q2 q3 0), (aI g q0 24 (upd (flF unF f0 j) j (he_untold.getD j 0))), (aI g q1 10 f1)] H := hP
        have hD : va_D A [(oX6 h0 q0 q1 q2 q3 0), (aI g q0 24 (upd (flF unF f0 j) j (he_untold.getD j 0))), (aI g q1 10 f1)] := hD
        refine lv_iinc (v := nI (j + 1)) (lv' := [(1, .int (nI (j + 1))), (0, .ref h0)]) hx hb dX6_clear_27 hl (k := 1) rfl (nI_1 j) (by decide) rfl (fun ls hl => ?_)
        refine lv_goto (tgt := 7) hx hb dX6_clear_30 (by decide) ?_
        have hP : va_P g.1 vwCl [(oX6 h0 q0 q1 q2 q3 0), (aI g q0 24 (flF unF f0 (j + 1))), (aI g q1 10 f1)] H := by rw [← flF_s unF f0 j]; exact hP
        have hD : va_D A [(oX6 h0 q0 q1 q2 q3 0), (aI g q0 24 (flF unF f0 (j + 1))), (aI g q1 10 f1)] := by rw [← flF_s unF f0 j]; exact hD
        exact ih7 (j + 1) (by omega) (by omega) _ _ _ hP hD hS (lv_sub hl [1, 0] rfl)
  have hP : va_P g.1 vwCl [(oX6 h0 q0 q1 q2 q3 0), (aI g q0 24 (flF unF f0 0)), (aI g q1 10 f1)] H := by rw [flF_0]; exact hP
  have hD : va_D A [(oX6 h0 q0 q1 q2 q3 0), (aI g q0 24 (flF unF f0 0)), (aI g q1 10 f1)] := by rw [flF_0]; exact hD
  exact loop7 ((24 - 0) + 1) 0 (Nat.lt_succ_self _) (Nat.zero_le _) _ _ _ hP hD hS (lv_sub hl [1, 0] rfl)
set_option maxHeartbeats 4000000 in
set_option maxRecDepth 100000 in
theorem c_X6_init (l : Launch) (g : he_G) (h0 : Nat)  : he_V l yX6_init wsX6_init 2 32 4 46 g [.ref h0] [(h0, .inr (6, [.null, .null, .null, .null, .int 0]))] (fun (u : Nat × Nat × Nat × Nat) => True) (fun (u : Nat × Nat × Nat × Nat) => [(oX6 h0 u.1 u.2.1 u.2.2.1 u.2.2.2 0), (aI g u.1 24 (flF unF (fun _ => 0) 24)), (aI g u.2.1 10 (flF nrF (fun _ => 0) 10)), (aI g u.2.2.1 6 (fun _ => 0)), (aI g u.2.2.2 6 (fun _ => 0))]) := by
  refine he_begin (l := l) (g := g) (y := yX6_init) (wl := wsX6_init) (fr := 2) (lo := 32) (mc := 4) (ms := 46) (av := [.ref h0]) (ws := [(h0, .inr (6, [.null, .null, .null, .null, .int 0]))]) (cc := cX6_init) (maxL := 1) (ret := none) (fun A => va_Qv (fun (u : Nat × Nat × Nat × Nat) => True) (fun u t => he_post g A ((fun (u : Nat × Nat × Nat × Nat) => [(oX6 h0 u.1 u.2.1 u.2.2.1 u.2.2.2 0), (aI g u.1 24 (flF unF (fun _ => 0) 24)), (aI g u.2.1 10 (flF nrF (fun _ => 0) 10)), (aI g u.2.2.1 6 (fun _ => 0)), (aI g u.2.2.2 6 (fun _ => 0))]) u) t) A) (by decide) rfl (Nat.le_of_ble_eq_true rfl) ?_
  intro p e s m args below meth c A ls H locs Q hQ hB
  obtain ⟨hx, hb, hr, hml, hown, hts, hlk, hin, hP, hK, hD, hS, hA, hE, hl⟩ := hB
  have hl : lv_has ls 1 [(0, .ref h0)] := hl
  have nl3 := hE.nest (RX6, 3, yX9_init) (by decide +kernel)
  have iniX9 := hts (.initialized RX9) (iwoX6_init (k := 7) rfl)
  have im_yX9_init := hts (.instanceMethod yX9_init) (iwoX6_init (k := 6) rfl)
  have f9 := hts (.fieldLink RX6 9 "HiredEnemy$Plan" "UNTOLD" "[I") (iwoX6_init (k := 0) rfl)
  obtain ⟨t_un, hZ_un, hT_un⟩ := hE.1
  have harr_int := hts (.arrayClass .int) (iwoX6_init (k := 1) rfl)
  have f15 := hts (.fieldLink RX6 15 "HiredEnemy$Plan" "said" "[I") (iwoX6_init (k := 2) rfl)
  have inX6 : ∀ w ∈ wsX60, w ∈ wsX6_init := innX6_init_X6
  have f18 := hts (.fieldLink RX6 18 "HiredEnemy$Plan" "fearByNear" "[I") (iwoX6_init (k := 3) rfl)
  have f21 := hts (.fieldLink RX6 21 "HiredEnemy$Plan" "strength" "[I") (iwoX6_init (k := 4) rfl)
  have f24 := hts (.fieldLink RX6 24 "HiredEnemy$Plan" "mended" "[I") (iwoX6_init (k := 5) rfl)
  refine lv_aload_n hx hb dX6_init_0 rfl (lv_at hl 0 rfl) ?_
  refine he_cv (wc := []) (wr := [(h0, .inr (6, [.null, .null, .null, .null, .int 0]))]) (va_runIN (As := []) (rest := []) ⟨hx, hb, hml, hown, hts⟩ (c_X9_init l g h0 H.size) ⟨(va_cnB 0 hts gX6_init_X9_init_n3 rfl rfl rfl nl3 iniX9 (by decide +kernel) ⟨Nat.le_of_ble_eq_true rfl, Nat.le_of_ble_eq_true rfl⟩), rfl, im_yX9_init⟩ (he_preS (wc := []) hK hP hD hS hA hE [] rfl rfl) rfl rfl hl.1 rfl (lv_room (Nat.le_of_ble_eq_true rfl)) dX6_init_1 ⟨(Nat.le_of_ble_eq_true rfl), (Nat.le_of_ble_eq_true rfl)⟩) hP hD hS hA [] [0] rfl rfl rfl (by decide) (fun u_2 H locs h_3 hP hD hS => ?_)
  have hP : va_P g.1 vwCl [(h0, .inr (6, [.null, .null, .null, .null, .int 0]))] H := hP
  have hD : va_D A [(h0, .inr (6, [.null, .null, .null, .null, .int 0]))] := hD
  refine lv_aload_n hx hb dX6_init_4 rfl (lv_at hl 0 rfl) ?_
  refine va_gets hx hb hZ_un hS hown f9 (fun _ h9 => h9) dX6_init_5 ?_
  refine va_tlen (v := 24) hx hb hT_un hS (by decide) dX6_init_8 ?_
  refine he_newi hx hb harr_int hK hP hD hS hA 24 (by decide) (by decide) (by decide) (Nat.le_of_ble_eq_true rfl) (Nat.le_of_ble_eq_true rfl) dX6_init_9 (fun q_4 H hP hD hS => ?_)
  have hP : va_P g.1 vwCl [(h0, .inr (6, [.null, .null, .null, .null, .int 0])), (aI g q_4 24 (fun _ => 0))] H := hP
  have hD : va_D A [(h0, .inr (6, [.null, .null, .null, .null, .int 0])), (aI g q_4 24 (fun _ => 0))] := hD
  refine W.widen (k := 1) (n := 24) (Nat.le_of_ble_eq_true rfl) (Nat.le_of_ble_eq_true rfl) ?_
  refine va_putF (v := .ref q_4) (ty := tyX6 0) (T := TX6) (N := 5) hx hb hts inX6 tyX6 tyX6_ok nmX6 hown hK hP hD hS 0 rfl rfl 0 (by decide) f15 (fun _ h9 => h9) rfl hin rfl (by decide +kernel) rfl rfl (Nat.le_of_ble_eq_true rfl) dX6_init_11 (fun H locs hP hD hS => ?_)
  have hP : va_P g.1 vwCl [(h0, .inr (6, [.ref q_4, .null, .null, .null, .int 0])), (aI g q_4 24 (fun _ => 0))] H := hP
  have hD : va_D A [(h0, .inr (6, [.ref q_4, .null, .null, .null, .int 0])), (aI g q_4 24 (fun _ => 0))] := hD
  refine lv_aload_n hx hb dX6_init_14 rfl (lv_at hl 0 rfl) ?_
  refine lv_bipush (v := 10) hx hb dX6_init_15 (by decide) ?_
  refine he_newi hx hb harr_int hK hP hD hS hA 10 (by decide) (by decide) (by decide) (Nat.le_of_ble_eq_true rfl) (Nat.le_of_ble_eq_true rfl) dX6_init_17 (fun q_5 H hP hD hS => ?_)
  have hP : va_P g.1 vwCl [(h0, .inr (6, [.ref q_4, .null, .null, .null, .int 0])), (aI g q_4 24 (fun _ => 0)), (aI g q_5 10 (fun _ => 0))] H := hP
  have hD : va_D A [(h0, .inr (6, [.ref q_4, .null, .null, .null, .int 0])), (aI g q_4 24 (fun _ => 0)), (aI g q_5 10 (fun _ => 0))] := hD
  refine W.widen (k := 2) (n := 34) (Nat.le_of_ble_eq_true rfl) (Nat.le_of_ble_eq_true rfl) ?_
  refine va_putF (v := .ref q_5) (ty := tyX6 1) (T := TX6) (N := 5) hx hb hts inX6 tyX6 tyX6_ok nmX6 hown hK hP hD hS 0 rfl rfl 1 (by decide) f18 (fun _ h9 => h9) rfl hin rfl (by decide +kernel) rfl rfl (Nat.le_of_ble_eq_true rfl) dX6_init_19 (fun H locs hP hD hS => ?_)
  have hP : va_P g.1 vwCl [(h0, .inr (6, [.ref q_4, .ref q_5, .null, .null, .int 0])), (aI g q_4 24 (fun _ => 0)), (aI g q_5 10 (fun _ => 0))] H := hP
  have hD : va_D A [(h0, .inr (6, [.ref q_4, .ref q_5, .null, .null, .int 0])), (aI g q_4 24 (fun _ => 0)), (aI g q_5 10 (fun _ => 0))] := hD
  refine lv_aload_n hx hb dX6_init_22 rfl (lv_at hl 0 rfl) ?_
  refine lv_bipush (v := 6) hx hb dX6_init_23 (by decide) ?_
  refine he_newi hx hb harr_int hK hP hD hS hA 6 (by decide) (by decide) (by decide) (Nat.le_of_ble_eq_true rfl) (Nat.le_of_ble_eq_true rfl) dX6_init_25 (fun q_6 H hP hD hS => ?_)
  have hP : va_P g.1 vwCl [(h0, .inr (6, [.ref q_4, .ref q_5, .null, .null, .int 0])), (aI g q_4 24 (fun _ => 0)), (aI g q_5 10 (fun _ => 0)), (aI g q_6 6 (fun _ => 0))] H := hP
  have hD : va_D A [(h0, .inr (6, [.ref q_4, .ref q_5, .null, .null, .int 0])), (aI g q_4 24 (fun _ => 0)), (aI g q_5 10 (fun _ => 0)), (aI g q_6 6 (fun _ => 0))] := hD
  refine W.widen (k := 3) (n := 40) (Nat.le_of_ble_eq_true rfl) (Nat.le_of_ble_eq_true rfl) ?_
  refine va_putF (v := .ref q_6) (ty := tyX6 2) (T := TX6) (N := 5) hx hb hts inX6 tyX6 tyX6_ok nmX6 hown hK hP hD hS 0 rfl rfl 2 (by decide) f21 (fun _ h9 => h9) rfl hin rfl (by decide +kernel) rfl rfl (Nat.le_of_ble_eq_true rfl) dX6_init_27 (fun H locs hP hD hS => ?_)
  have hP : va_P g.1 vwCl [(h0, .inr (6, [.ref q_4, .ref q_5, .ref q_6, .null, .int 0])), (aI g q_4 24 (fun _ => 0)), (aI g q_5 10 (fun _ => 0)), (aI g q_6 6 (fun _ => 0))] H := hP
  have hD : va_D A [(h0, .inr (6, [.ref q_4, .ref q_5, .ref q_6, .null, .int 0])), (aI g q_4 24 (fun _ => 0)), (aI g q_5 10 (fun _ => 0)), (aI g q_6 6 (fun _ => 0))] := hD
  refine lv_aload_n hx hb dX6_init_30 rfl (lv_at hl 0 rfl) ?_
  refine lv_bipush (v := 6) hx hb dX6_init_31 (by decide) ?_
  refine he_newi hx hb harr_int hK hP hD hS hA 6 (by decide) (by decide) (by decide) (Nat.le_of_ble_eq_true rfl) (Nat.le_of_ble_eq_true rfl) dX6_init_33 (fun q_7 H hP hD hS => ?_)
  have hP : va_P g.1 vwCl [(h0, .inr (6, [.ref q_4, .ref q_5, .ref q_6, .null, .int 0])), (aI g q_4 24 (fun _ => 0)), (aI g q_5 10 (fun _ => 0)), (aI g q_6 6 (fun _ => 0)), (aI g q_7 6 (fun _ => 0))] H := hP
  have hD : va_D A [(h0, .inr (6, [.ref q_4, .ref q_5, .ref q_6, .null, .int 0])), (aI g q_4 24 (fun _ => 0)), (aI g q_5 10 (fun _ => 0)), (aI g q_6 6 (fun _ => 0)), (aI g q_7 6 (fun _ => 0))] := hD
  refine W.widen (k := 4) (n := 46) (Nat.le_of_ble_eq_true rfl) (Nat.le_of_ble_eq_true rfl) ?_
  refine va_putF (v := .ref q_7) (ty := tyX6 3) (T := TX6) (N := 5) hx hb hts inX6 tyX6 tyX6_ok nmX6 hown hK hP hD hS 0 rfl rfl 3 (by decide) f24 (fun _ h9 => h9) rfl hin rfl (by decide +kernel) rfl rfl (Nat.le_of_ble_eq_true rfl) dX6_init_35 (fun H locs hP hD hS => ?_)
  have hP : va_P g.1 vwCl [(oX6 h0 q_4 q_5 q_6 q_7 0), (aI g q_4 24 (fun _ => 0)), (aI g q_5 10 (fun _ => 0)), (aI g q_6 6 (fun _ => 0)), (aI g q_7 6 (fun _ => 0))] H := hP
  have hD : va_D A [(oX6 h0 q_4 q_5 q_6 q_7 0), (aI g q_4 24 (fun _ => 0)), (aI g q_5 10 (fun _ => 0)), (aI g q_6 6 (fun _ => 0)), (aI g q_7 6 (fun _ => 0))] := hD
  refine lv_aload_n hx hb dX6_init_38 rfl (lv_at hl 0 rfl) ?_
  refine he_cv (wc := [(oX6 h0 q_4 q_5 q_6 q_7 0), (aI g q_4 24 (fun _ => 0)), (aI g q_5 10 (fun _ => 0))]) (wr := [(aI g q_6 6 (fun _ => 0)), (aI g q_7 6 (fun _ => 0))]) (va_runV (As := []) (rest := []) ⟨hx, hb, hml, hown, hts⟩ (c_X6_clear l g h0 q_4 q_5 q_6 q_7 0 (fun _ => 0) (fun _ => 0) H.size) (cwV 0 hts gX6_init_X6_clear rfl rfl rfl (by decide +kernel) ⟨Nat.le_of_ble_eq_true rfl, Nat.le_of_ble_eq_true rfl⟩) (he_preV (wc := [(oX6 h0 q_4 q_5 q_6 q_7 0), (aI g q_4 24 (fun _ => 0)), (aI g q_5 10 (fun _ => 0))]) hK hP hD hS hA hE [0, 1, 2] rfl rfl 0 rfl rfl) rfl rfl hl.1 rfl (lv_room (Nat.le_of_ble_eq_true rfl)) dX6_init_39 ⟨(Nat.le_of_ble_eq_true rfl), (Nat.le_of_ble_eq_true rfl)⟩) hP hD hS hA [0, 1, 2] [3, 4] rfl rfl rfl (by decide) (fun u_9 H locs h_10 hP hD hS => ?_)
  have hP : va_P g.1 vwCl [(aI g q_6 6 (fun _ => 0)), (aI g q_7 6 (fun _ => 0)), (oX6 h0 q_4 q_5 q_6 q_7 0), (aI g q_4 24 (flF unF (fun _ => 0) 24)), (aI g q_5 10 (flF nrF (fun _ => 0) 10))] H := hP
  have hD : va_D A [(aI g q_6 6 (fun _ => 0)), (aI g q_7 6 (fun _ => 0)), (oX6 h0 q_4 q_5 q_6 q_7 0), (aI g q_4 24 (flF unF (fun _ => 0) 24)), (aI g q_5 10 (flF nrF (fun _ => 0) 10))] := hD
  have hP := hP.sub (ws' := [(oX6 h0 q_4 q_5 q_6 q_7 0), (aI g q_4 24 (flF unF (fun _ => 0) 24)), (aI g q_5 10 (flF nrF (fun _ => 0) 10)), (aI g q_6 6 (fun _ => 0)), (aI g q_7 6 (fun _ => 0))]) [2, 3, 4, 0, 1] rfl
  have hD := hD.sub (ws' := [(oX6 h0 q_4 q_5 q_6 q_7 0), (aI g q_4 24 (flF unF (fun _ => 0) 24)), (aI g q_5 10 (flF nrF (fun _ => 0) 10)), (aI g q_6 6 (fun _ => 0)), (aI g q_7 6 (fun _ => 0))]) [2, 3, 4, 0, 1] (by decide) rfl
  exact he_rv hQ hx hb hr hlk hP hD hS dX6_init_42 (Nat.le_of_ble_eq_true rfl) (Nat.le_of_ble_eq_true rfl) ((q_4, q_5, q_6, q_7)) (rfl) (trivial)
set_option maxHeartbeats 4000000 in
set_option maxRecDepth 100000 in
theorem c_X8_init (l : Launch) (g : he_G) (h0 : Nat)  : he_V l yX8_init wsX8_init 2 32 11 3726 g [.ref h0] [(h0, .inr (8, [.null, .null, .null, .null]))] (fun (u : Nat × Nat × Nat × Nat × Nat × Nat × Nat × Nat × Nat × Nat × Nat) => True) (fun (u : Nat × Nat × Nat × Nat × Nat × Nat × Nat × Nat × Nat × Nat × Nat) => [(oX8 h0 u.1 u.2.2.2.1 u.2.2.2.2.2.1 u.2.2.2.2.2.2.2.2.1), (oX4 u.1 u.2.1 u.2.2.1 0), (aI g u.2.1 24 (fun _ => 0)), (aI g u.2.2.1 6 (fun _ => 0)), (oX0 u.2.2.2.1 u.2.2.2.2.1), (aI g u.2.2.2.2.1 3600 (fun _ => 0)), (oX2 u.2.2.2.2.2.1 u.2.2.2.2.2.2.1 u.2.2.2.2.2.2.2.1 1 1 1 1 0), (aI g u.2.2.2.2.2.2.1 4 (upd (upd (upd (upd (fun _ => 0) 0 8) 1 8) 2 8) 3 8)), (aI g u.2.2.2.2.2.2.2.1 4 (upd (upd (upd (upd (fun _ => 0) 0 8) 1 8) 2 8) 3 8)), (oX3 u.2.2.2.2.2.2.2.2.1 u.2.2.2.2.2.2.2.2.2.1 u.2.2.2.2.2.2.2.2.2.2), (aI g u.2.2.2.2.2.2.2.2.2.1 36 (fun _ => 0)), (aI g u.2.2.2.2.2.2.2.2.2.2 39 (fun _ => 0))]) := by
  refine he_begin (l := l) (g := g) (y := yX8_init) (wl := wsX8_init) (fr := 2) (lo := 32) (mc := 11) (ms := 3726) (av := [.ref h0]) (ws := [(h0, .inr (8, [.null, .null, .null, .null]))]) (cc := cX8_init) (maxL := 1) (ret := none) (fun A => va_Qv (fun (u : Nat × Nat × Nat × Nat × Nat × Nat × Nat × Nat × Nat × Nat × Nat) => True) (fun u t => he_post g A ((fun (u : Nat × Nat × Nat × Nat × Nat × Nat × Nat × Nat × Nat × Nat × Nat) => [(oX8 h0 u.1 u.2.2.2.1 u.2.2.2.2.2.1 u.2.2.2.2.2.2.2.2.1), (oX4 u.1 u.2.1 u.2.2.1 0), (aI g u.2.1 24 (fun _ => 0)), (aI g u.2.2.1 6 (fun _ => 0)), (oX0 u.2.2.2.1 u.2.2.2.2.1), (aI g u.2.2.2.2.1 3600 (fun _ => 0)), (oX2 u.2.2.2.2.2.1 u.2.2.2.2.2.2.1 u.2.2.2.2.2.2.2.1 1 1 1 1 0), (aI g u.2.2.2.2.2.2.1 4 (upd (upd (upd (upd (fun _ => 0) 0 8) 1 8) 2 8) 3 8)), (aI g u.2.2.2.2.2.2.2.1 4 (upd (upd (upd (upd (fun _ => 0) 0 8) 1 8) 2 8) 3 8)), (oX3 u.2.2.2.2.2.2.2.2.1 u.2.2.2.2.2.2.2.2.2.1 u.2.2.2.2.2.2.2.2.2.2), (aI g u.2.2.2.2.2.2.2.2.2.1 36 (fun _ => 0)), (aI g u.2.2.2.2.2.2.2.2.2.2 39 (fun _ => 0))]) u) t) A) (by decide) rfl (Nat.le_of_ble_eq_true rfl) ?_
  intro p e s m args below meth c A ls H locs Q hQ hB
  obtain ⟨hx, hb, hr, hml, hown, hts, hlk, hin, hP, hK, hD, hS, hA, hE, hl⟩ := hB
  have hl : lv_has ls 1 [(0, .ref h0)] := hl
  have oi1 := hts (.methodLink RX8 1 objectInit) (iwoX8_init (k := 0) rfl)
  have oim := hts (.instanceMethod objectInit) (iwoX8_init (k := 1) rfl)
  have oic := hts (.code objectInit ⟨#[0xb1]⟩ 1 none) (by decide +kernel)
  have cl7 := hts (.classLink RX8 7 RX4) (iwoX8_init (k := 2) rfl)
  have instX4 := hts (.instantiable RX4 3) (iwoX8_init (k := 3) rfl)
  have iniX4 := hts (.initialized RX4) (iwoX8_init (k := 4) rfl)
  have inX4 : ∀ w ∈ wsX40, w ∈ wsX8_init := innX8_init_X4
  have nl9 := hE.nest (RX8, 9, yX4_init) (by decide +kernel)
  have im_yX4_init := hts (.instanceMethod yX4_init) (iwoX8_init (k := 18) rfl)
  have f10 := hts (.fieldLink RX8 10 "HiredEnemy$Scene" "course" "LHiredEnemy$Course;") (iwoX8_init (k := 5) rfl)
  have inX8 : ∀ w ∈ wsX80, w ∈ wsX8_init := innX8_init_X8
  have cl16 := hts (.classLink RX8 16 RX0) (iwoX8_init (k := 6) rfl)
  have instX0 := hts (.instantiable RX0 1) (iwoX8_init (k := 7) rfl)
  have iniX0 := hts (.initialized RX0) (iwoX8_init (k := 8) rfl)
  have inX0 : ∀ w ∈ wsX00, w ∈ wsX8_init := innX8_init_X0
  have nl18 := hE.nest (RX8, 18, yX0_init) (by decide +kernel)
  have im_yX0_init := hts (.instanceMethod yX0_init) (iwoX8_init (k := 20) rfl)
  have f19 := hts (.fieldLink RX8 19 "HiredEnemy$Scene" "annals" "LHiredEnemy$Annals;") (iwoX8_init (k := 9) rfl)
  have cl23 := hts (.classLink RX8 23 RX2) (iwoX8_init (k := 10) rfl)
  have instX2 := hts (.instantiable RX2 7) (iwoX8_init (k := 11) rfl)
  have iniX2 := hts (.initialized RX2) (iwoX8_init (k := 12) rfl)
  have inX2 : ∀ w ∈ wsX20, w ∈ wsX8_init := innX8_init_X2
  have nl25 := hE.nest (RX8, 25, yX2_init) (by decide +kernel)
  have im_yX2_init := hts (.instanceMethod yX2_init) (iwoX8_init (k := 21) rfl)
  have f26 := hts (.fieldLink RX8 26 "HiredEnemy$Scene" "belief" "LHiredEnemy$Belief;") (iwoX8_init (k := 13) rfl)
  have cl30 := hts (.classLink RX8 30 RX3) (iwoX8_init (k := 14) rfl)
  have instX3 := hts (.instantiable RX3 2) (iwoX8_init (k := 15) rfl)
  have iniX3 := hts (.initialized RX3) (iwoX8_init (k := 16) rfl)
  have inX3 : ∀ w ∈ wsX30, w ∈ wsX8_init := innX8_init_X3
  have nl32 := hE.nest (RX8, 32, yX3_init) (by decide +kernel)
  have im_yX3_init := hts (.instanceMethod yX3_init) (iwoX8_init (k := 22) rfl)
  have f33 := hts (.fieldLink RX8 33 "HiredEnemy$Scene" "bids" "LHiredEnemy$Bids;") (iwoX8_init (k := 17) rfl)
  refine lv_aload_n hx hb dX8_init_0 rfl (lv_at hl 0 rfl) ?_
  refine W.objInit hx hb hown oi1 oim oic rfl (by rw [hml]; exact hl.1) rfl dX8_init_1 (Nat.le_of_ble_eq_true rfl) (Nat.le_of_ble_eq_true rfl) ?_
  refine W.eq (g2 := F0 m 4 ls []) rfl ?_
  refine lv_aload_n hx hb dX8_init_4 rfl (lv_at hl 0 rfl) ?_
  refine va_new (ci := 4) (fs := [.null, .null, .int 0]) (T := TX4) (N := 3) hx hb hts inX4 tyX4 tyX4_ok hown cl7 instX4 iniX4 hK hP hD hS hA rfl (by decide) (Nat.le_of_ble_eq_true rfl) (Nat.le_of_ble_eq_true rfl) dX8_init_5 (fun q_1 H hP hD hS => ?_)
  have hP : va_P g.1 vwCl [(h0, .inr (8, [.null, .null, .null, .null])), (q_1, .inr (4, [.null, .null, .int 0]))] H := hP
  have hD : va_D A [(h0, .inr (8, [.null, .null, .null, .null])), (q_1, .inr (4, [.null, .null, .int 0]))] := hD
  refine W.widen (k := 1) (n := 3) (Nat.le_of_ble_eq_true rfl) (Nat.le_of_ble_eq_true rfl) ?_
  refine lv_dup hx hb dX8_init_8 rfl ?_
  refine he_cv (wc := [(q_1, .inr (4, [.null, .null, .int 0]))]) (wr := [(h0, .inr (8, [.null, .null, .null, .null]))]) (va_runIN (As := []) (rest := [.ref q_1, .ref h0]) ⟨hx, hb, hml, hown, hts⟩ (c_X4_init l g q_1 H.size) ⟨(va_cnB 0 hts gX8_init_X4_init_n9 rfl rfl rfl nl9 iniX4 (by decide +kernel) ⟨Nat.le_of_ble_eq_true rfl, Nat.le_of_ble_eq_true rfl⟩), rfl, im_yX4_init⟩ (he_preS (wc := [(q_1, .inr (4, [.null, .null, .int 0]))]) hK hP hD hS hA hE [1] rfl rfl) rfl rfl hl.1 rfl (lv_room (Nat.le_of_ble_eq_true rfl)) dX8_init_9 ⟨(Nat.le_of_ble_eq_true rfl), (Nat.le_of_ble_eq_true rfl)⟩) hP hD hS hA [1] [0] rfl rfl rfl (by decide) (fun u_3 H locs h_4 hP hD hS => ?_)
  obtain ⟨q0_5, q1_6⟩ := u_3
  have hP : va_P g.1 vwCl [(h0, .inr (8, [.null, .null, .null, .null])), (oX4 q_1 q0_5 q1_6 0), (aI g q0_5 24 (fun _ => 0)), (aI g q1_6 6 (fun _ => 0))] H := hP
  have hD : va_D A [(h0, .inr (8, [.null, .null, .null, .null])), (oX4 q_1 q0_5 q1_6 0), (aI g q0_5 24 (fun _ => 0)), (aI g q1_6 6 (fun _ => 0))] := hD
  refine W.widen (k := 3) (n := 33) (Nat.le_of_ble_eq_true rfl) (Nat.le_of_ble_eq_true rfl) ?_
  refine va_putF (v := .ref q_1) (ty := tyX8 0) (T := TX8) (N := 4) hx hb hts inX8 tyX8 tyX8_ok nmX8 hown hK hP hD hS 0 rfl rfl 0 (by decide) f10 (fun _ h9 => h9) rfl hin rfl (by decide +kernel) rfl rfl (Nat.le_of_ble_eq_true rfl) dX8_init_12 (fun H locs hP hD hS => ?_)
  have hP : va_P g.1 vwCl [(h0, .inr (8, [.ref q_1, .null, .null, .null])), (oX4 q_1 q0_5 q1_6 0), (aI g q0_5 24 (fun _ => 0)), (aI g q1_6 6 (fun _ => 0))] H := hP
  have hD : va_D A [(h0, .inr (8, [.ref q_1, .null, .null, .null])), (oX4 q_1 q0_5 q1_6 0), (aI g q0_5 24 (fun _ => 0)), (aI g q1_6 6 (fun _ => 0))] := hD
  refine lv_aload_n hx hb dX8_init_15 rfl (lv_at hl 0 rfl) ?_
  refine va_new (ci := 0) (fs := [.null]) (T := TX0) (N := 1) hx hb hts inX0 tyX0 tyX0_ok hown cl16 instX0 iniX0 hK hP hD hS hA rfl (by decide) (Nat.le_of_ble_eq_true rfl) (Nat.le_of_ble_eq_true rfl) dX8_init_16 (fun q_7 H hP hD hS => ?_)
  have hP : va_P g.1 vwCl [(h0, .inr (8, [.ref q_1, .null, .null, .null])), (oX4 q_1 q0_5 q1_6 0), (aI g q0_5 24 (fun _ => 0)), (aI g q1_6 6 (fun _ => 0)), (q_7, .inr (0, [.null]))] H := hP
  have hD : va_D A [(h0, .inr (8, [.ref q_1, .null, .null, .null])), (oX4 q_1 q0_5 q1_6 0), (aI g q0_5 24 (fun _ => 0)), (aI g q1_6 6 (fun _ => 0)), (q_7, .inr (0, [.null]))] := hD
  refine W.widen (k := 4) (n := 34) (Nat.le_of_ble_eq_true rfl) (Nat.le_of_ble_eq_true rfl) ?_
  refine lv_dup hx hb dX8_init_19 rfl ?_
  refine he_cv (wc := [(q_7, .inr (0, [.null]))]) (wr := [(h0, .inr (8, [.ref q_1, .null, .null, .null])), (oX4 q_1 q0_5 q1_6 0), (aI g q0_5 24 (fun _ => 0)), (aI g q1_6 6 (fun _ => 0))]) (va_runIN (As := []) (rest := [.ref q_7, .ref h0]) ⟨hx, hb, hml, hown, hts⟩ (c_X0_init l g q_7 H.size) ⟨(va_cnB 0 hts gX8_init_X0_init_n18 rfl rfl rfl nl18 iniX0 (by decide +kernel) ⟨Nat.le_of_ble_eq_true rfl, Nat.le_of_ble_eq_true rfl⟩), rfl, im_yX0_init⟩ (he_preS (wc := [(q_7, .inr (0, [.null]))]) hK hP hD hS hA hE [4] rfl rfl) rfl rfl hl.1 rfl (lv_room (Nat.le_of_ble_eq_true rfl)) dX8_init_20 ⟨(Nat.le_of_ble_eq_true rfl), (Nat.le_of_ble_eq_true rfl)⟩) hP hD hS hA [4] [0, 1, 2, 3] rfl rfl rfl (by decide) (fun u_9 H locs h_10 hP hD hS => ?_)
  obtain ⟨q0_11, rfl⟩ : ∃ z, z = u_9 := ⟨_, rfl⟩
  have hP : va_P g.1 vwCl [(h0, .inr (8, [.ref q_1, .null, .null, .null])), (oX4 q_1 q0_5 q1_6 0), (aI g q0_5 24 (fun _ => 0)), (aI g q1_6 6 (fun _ => 0)), (oX0 q_7 q0_11), (aI g q0_11 3600 (fun _ => 0))] H := hP
  have hD : va_D A [(h0, .inr (8, [.ref q_1, .null, .null, .null])), (oX4 q_1 q0_5 q1_6 0), (aI g q0_5 24 (fun _ => 0)), (aI g q1_6 6 (fun _ => 0)), (oX0 q_7 q0_11), (aI g q0_11 3600 (fun _ => 0))] := hD
  refine W.widen (k := 5) (n := 3634) (Nat.le_of_ble_eq_true rfl) (Nat.le_of_ble_eq_true rfl) ?_
  refine va_putF (v := .ref q_7) (ty := tyX8 1) (T := TX8) (N := 4) hx hb hts inX8 tyX8 tyX8_ok nmX8 hown hK hP hD hS 0 rfl rfl 1 (by decide) f19 (fun _ h9 => h9) rfl hin rfl (by decide +kernel) rfl rfl (Nat.le_of_ble_eq_true rfl) dX8_init_23 (fun H locs hP hD hS => ?_)
  have hP : va_P g.1 vwCl [(h0, .inr (8, [.ref q_1, .ref q_7, .null, .null])), (oX4 q_1 q0_5 q1_6 0), (aI g q0_5 24 (fun _ => 0)), (aI g q1_6 6 (fun _ => 0)), (oX0 q_7 q0_11), (aI g q0_11 3600 (fun _ => 0))] H := hP
  have hD : va_D A [(h0, .inr (8, [.ref q_1, .ref q_7, .null, .null])), (oX4 q_1 q0_5 q1_6 0), (aI g q0_5 24 (fun _ => 0)), (aI g q1_6 6 (fun _ => 0)), (oX0 q_7 q0_11), (aI g q0_11 3600 (fun _ => 0))] := hD
  refine lv_aload_n hx hb dX8_init_26 rfl (lv_at hl 0 rfl) ?_
  refine va_new (ci := 2) (fs := [.null, .null, .int 0, .int 0, .long 0, .long 0, .int 0]) (T := TX2) (N := 7) hx hb hts inX2 tyX2 tyX2_ok hown cl23 instX2 iniX2 hK hP hD hS hA rfl (by decide) (Nat.le_of_ble_eq_true rfl) (Nat.le_of_ble_eq_true rfl) dX8_init_27 (fun q_12 H hP hD hS => ?_)
  have hP : va_P g.1 vwCl [(h0, .inr (8, [.ref q_1, .ref q_7, .null, .null])), (oX4 q_1 q0_5 q1_6 0), (aI g q0_5 24 (fun _ => 0)), (aI g q1_6 6 (fun _ => 0)), (oX0 q_7 q0_11), (aI g q0_11 3600 (fun _ => 0)), (q_12, .inr (2, [.null, .null, .int 0, .int 0, .long 0, .long 0, .int 0]))] H := hP
  have hD : va_D A [(h0, .inr (8, [.ref q_1, .ref q_7, .null, .null])), (oX4 q_1 q0_5 q1_6 0), (aI g q0_5 24 (fun _ => 0)), (aI g q1_6 6 (fun _ => 0)), (oX0 q_7 q0_11), (aI g q0_11 3600 (fun _ => 0)), (q_12, .inr (2, [.null, .null, .int 0, .int 0, .long 0, .long 0, .int 0]))] := hD
  refine W.widen (k := 6) (n := 3641) (Nat.le_of_ble_eq_true rfl) (Nat.le_of_ble_eq_true rfl) ?_
  refine lv_dup hx hb dX8_init_30 rfl ?_
  refine he_cv (wc := [(q_12, .inr (2, [.null, .null, .int 0, .int 0, .long 0, .long 0, .int 0]))]) (wr := [(h0, .inr (8, [.ref q_1, .ref q_7, .null, .null])), (oX4 q_1 q0_5 q1_6 0), (aI g q0_5 24 (fun _ => 0)), (aI g q1_6 6 (fun _ => 0)), (oX0 q_7 q0_11), (aI g q0_11 3600 (fun _ => 0))]) (va_runIN (As := []) (rest := [.ref q_12, .ref h0]) ⟨hx, hb, hml, hown, hts⟩ (c_X2_init l g q_12 H.size) ⟨(va_cnB 0 hts gX8_init_X2_init_n25 rfl rfl rfl nl25 iniX2 (by decide +kernel) ⟨Nat.le_of_ble_eq_true rfl, Nat.le_of_ble_eq_true rfl⟩), rfl, im_yX2_init⟩ (he_preS (wc := [(q_12, .inr (2, [.null, .null, .int 0, .int 0, .long 0, .long 0, .int 0]))]) hK hP hD hS hA hE [6] rfl rfl) rfl rfl hl.1 rfl (lv_room (Nat.le_of_ble_eq_true rfl)) dX8_init_31 ⟨(Nat.le_of_ble_eq_true rfl), (Nat.le_of_ble_eq_true rfl)⟩) hP hD hS hA [6] [0, 1, 2, 3, 4, 5] rfl rfl rfl (by decide) (fun u_14 H locs h_15 hP hD hS => ?_)
  obtain ⟨q0_16, q1_17⟩ := u_14
  have hP : va_P g.1 vwCl [(h0, .inr (8, [.ref q_1, .ref q_7, .null, .null])), (oX4 q_1 q0_5 q1_6 0), (aI g q0_5 24 (fun _ => 0)), (aI g q1_6 6 (fun _ => 0)), (oX0 q_7 q0_11), (aI g q0_11 3600 (fun _ => 0)), (oX2 q_12 q0_16 q1_17 1 1 1 1 0), (aI g q0_16 4 (upd (upd (upd (upd (fun _ => 0) 0 8) 1 8) 2 8) 3 8)), (aI g q1_17 4 (upd (upd (upd (upd (fun _ => 0) 0 8) 1 8) 2 8) 3 8))] H := hP
  have hD : va_D A [(h0, .inr (8, [.ref q_1, .ref q_7, .null, .null])), (oX4 q_1 q0_5 q1_6 0), (aI g q0_5 24 (fun _ => 0)), (aI g q1_6 6 (fun _ => 0)), (oX0 q_7 q0_11), (aI g q0_11 3600 (fun _ => 0)), (oX2 q_12 q0_16 q1_17 1 1 1 1 0), (aI g q0_16 4 (upd (upd (upd (upd (fun _ => 0) 0 8) 1 8) 2 8) 3 8)), (aI g q1_17 4 (upd (upd (upd (upd (fun _ => 0) 0 8) 1 8) 2 8) 3 8))] := hD
  refine W.widen (k := 8) (n := 3649) (Nat.le_of_ble_eq_true rfl) (Nat.le_of_ble_eq_true rfl) ?_
  refine va_putF (v := .ref q_12) (ty := tyX8 2) (T := TX8) (N := 4) hx hb hts inX8 tyX8 tyX8_ok nmX8 hown hK hP hD hS 0 rfl rfl 2 (by decide) f26 (fun _ h9 => h9) rfl hin rfl (by decide +kernel) rfl rfl (Nat.le_of_ble_eq_true rfl) dX8_init_34 (fun H locs hP hD hS => ?_)
  have hP : va_P g.1 vwCl [(h0, .inr (8, [.ref q_1, .ref q_7, .ref q_12, .null])), (oX4 q_1 q0_5 q1_6 0), (aI g q0_5 24 (fun _ => 0)), (aI g q1_6 6 (fun _ => 0)), (oX0 q_7 q0_11), (aI g q0_11 3600 (fun _ => 0)), (oX2 q_12 q0_16 q1_17 1 1 1 1 0), (aI g q0_16 4 (upd (upd (upd (upd (fun _ => 0) 0 8) 1 8) 2 8) 3 8)), (aI g q1_17 4 (upd (upd (upd (upd (fun _ => 0) 0 8) 1 8) 2 8) 3 8))] H := hP
  have hD : va_D A [(h0, .inr (8, [.ref q_1, .ref q_7, .ref q_12, .null])), (oX4 q_1 q0_5 q1_6 0), (aI g q0_5 24 (fun _ => 0)), (aI g q1_6 6 (fun _ => 0)), (oX0 q_7 q0_11), (aI g q0_11 3600 (fun _ => 0)), (oX2 q_12 q0_16 q1_17 1 1 1 1 0), (aI g q0_16 4 (upd (upd (upd (upd (fun _ => 0) 0 8) 1 8) 2 8) 3 8)), (aI g q1_17 4 (upd (upd (upd (upd (fun _ => 0) 0 8) 1 8) 2 8) 3 8))] := hD
  refine lv_aload_n hx hb dX8_init_37 rfl (lv_at hl 0 rfl) ?_
  refine va_new (ci := 3) (fs := [.null, .null]) (T := TX3) (N := 2) hx hb hts inX3 tyX3 tyX3_ok hown cl30 instX3 iniX3 hK hP hD hS hA rfl (by decide) (Nat.le_of_ble_eq_true rfl) (Nat.le_of_ble_eq_true rfl) dX8_init_38 (fun q_18 H hP hD hS => ?_)
  have hP : va_P g.1 vwCl [(h0, .inr (8, [.ref q_1, .ref q_7, .ref q_12, .null])), (oX4 q_1 q0_5 q1_6 0), (aI g q0_5 24 (fun _ => 0)), (aI g q1_6 6 (fun _ => 0)), (oX0 q_7 q0_11), (aI g q0_11 3600 (fun _ => 0)), (oX2 q_12 q0_16 q1_17 1 1 1 1 0), (aI g q0_16 4 (upd (upd (upd (upd (fun _ => 0) 0 8) 1 8) 2 8) 3 8)), (aI g q1_17 4 (upd (upd (upd (upd (fun _ => 0) 0 8) 1 8) 2 8) 3 8)), (q_18, .inr (3, [.null, .null]))] H := hP
  have hD : va_D A [(h0, .inr (8, [.ref q_1, .ref q_7, .ref q_12, .null])), (oX4 q_1 q0_5 q1_6 0), (aI g q0_5 24 (fun _ => 0)), (aI g q1_6 6 (fun _ => 0)), (oX0 q_7 q0_11), (aI g q0_11 3600 (fun _ => 0)), (oX2 q_12 q0_16 q1_17 1 1 1 1 0), (aI g q0_16 4 (upd (upd (upd (upd (fun _ => 0) 0 8) 1 8) 2 8) 3 8)), (aI g q1_17 4 (upd (upd (upd (upd (fun _ => 0) 0 8) 1 8) 2 8) 3 8)), (q_18, .inr (3, [.null, .null]))] := hD
  refine W.widen (k := 9) (n := 3651) (Nat.le_of_ble_eq_true rfl) (Nat.le_of_ble_eq_true rfl) ?_
  refine lv_dup hx hb dX8_init_41 rfl ?_
  refine he_cv (wc := [(q_18, .inr (3, [.null, .null]))]) (wr := [(h0, .inr (8, [.ref q_1, .ref q_7, .ref q_12, .null])), (oX4 q_1 q0_5 q1_6 0), (aI g q0_5 24 (fun _ => 0)), (aI g q1_6 6 (fun _ => 0)), (oX0 q_7 q0_11), (aI g q0_11 3600 (fun _ => 0)), (oX2 q_12 q0_16 q1_17 1 1 1 1 0), (aI g q0_16 4 (upd (upd (upd (upd (fun _ => 0) 0 8) 1 8) 2 8) 3 8)), (aI g q1_17 4 (upd (upd (upd (upd (fun _ => 0) 0 8) 1 8) 2 8) 3 8))]) (va_runIN (As := []) (rest := [.ref q_18, .ref h0]) ⟨hx, hb, hml, hown, hts⟩ (c_X3_init l g q_18 H.size) ⟨(va_cnB 0 hts gX8_init_X3_init_n32 rfl rfl rfl nl32 iniX3 (by decide +kernel) ⟨Nat.le_of_ble_eq_true rfl, Nat.le_of_ble_eq_true rfl⟩), rfl, im_yX3_init⟩ (he_preS (wc := [(q_18, .inr (3, [.null, .null]))]) hK hP hD hS hA hE [9] rfl rfl) rfl rfl hl.1 rfl (lv_room (Nat.le_of_ble_eq_true rfl)) dX8_init_42 ⟨(Nat.le_of_ble_eq_true rfl), (Nat.le_of_ble_eq_true rfl)⟩) hP hD hS hA [9] [0, 1, 2, 3, 4, 5, 6, 7, 8] rfl rfl rfl (by decide) (fun u_20 H locs h_21 hP hD hS => ?_)
  obtain ⟨q0_22, q1_23⟩ := u_20
  have hP : va_P g.1 vwCl [(h0, .inr (8, [.ref q_1, .ref q_7, .ref q_12, .null])), (oX4 q_1 q0_5 q1_6 0), (aI g q0_5 24 (fun _ => 0)), (aI g q1_6 6 (fun _ => 0)), (oX0 q_7 q0_11), (aI g q0_11 3600 (fun _ => 0)), (oX2 q_12 q0_16 q1_17 1 1 1 1 0), (aI g q0_16 4 (upd (upd (upd (upd (fun _ => 0) 0 8) 1 8) 2 8) 3 8)), (aI g q1_17 4 (upd (upd (upd (upd (fun _ => 0) 0 8) 1 8) 2 8) 3 8)), (oX3 q_18 q0_22 q1_23), (aI g q0_22 36 (fun _ => 0)), (aI g q1_23 39 (fun _ => 0))] H := hP
  have hD : va_D A [(h0, .inr (8, [.ref q_1, .ref q_7, .ref q_12, .null])), (oX4 q_1 q0_5 q1_6 0), (aI g q0_5 24 (fun _ => 0)), (aI g q1_6 6 (fun _ => 0)), (oX0 q_7 q0_11), (aI g q0_11 3600 (fun _ => 0)), (oX2 q_12 q0_16 q1_17 1 1 1 1 0), (aI g q0_16 4 (upd (upd (upd (upd (fun _ => 0) 0 8) 1 8) 2 8) 3 8)), (aI g q1_17 4 (upd (upd (upd (upd (fun _ => 0) 0 8) 1 8) 2 8) 3 8)), (oX3 q_18 q0_22 q1_23), (aI g q0_22 36 (fun _ => 0)), (aI g q1_23 39 (fun _ => 0))] := hD
  refine W.widen (k := 11) (n := 3726) (Nat.le_of_ble_eq_true rfl) (Nat.le_of_ble_eq_true rfl) ?_
  refine va_putF (v := .ref q_18) (ty := tyX8 3) (T := TX8) (N := 4) hx hb hts inX8 tyX8 tyX8_ok nmX8 hown hK hP hD hS 0 rfl rfl 3 (by decide) f33 (fun _ h9 => h9) rfl hin rfl (by decide +kernel) rfl rfl (Nat.le_of_ble_eq_true rfl) dX8_init_45 (fun H locs hP hD hS => ?_)
  have hP : va_P g.1 vwCl [(oX8 h0 q_1 q_7 q_12 q_18), (oX4 q_1 q0_5 q1_6 0), (aI g q0_5 24 (fun _ => 0)), (aI g q1_6 6 (fun _ => 0)), (oX0 q_7 q0_11), (aI g q0_11 3600 (fun _ => 0)), (oX2 q_12 q0_16 q1_17 1 1 1 1 0), (aI g q0_16 4 (upd (upd (upd (upd (fun _ => 0) 0 8) 1 8) 2 8) 3 8)), (aI g q1_17 4 (upd (upd (upd (upd (fun _ => 0) 0 8) 1 8) 2 8) 3 8)), (oX3 q_18 q0_22 q1_23), (aI g q0_22 36 (fun _ => 0)), (aI g q1_23 39 (fun _ => 0))] H := hP
  have hD : va_D A [(oX8 h0 q_1 q_7 q_12 q_18), (oX4 q_1 q0_5 q1_6 0), (aI g q0_5 24 (fun _ => 0)), (aI g q1_6 6 (fun _ => 0)), (oX0 q_7 q0_11), (aI g q0_11 3600 (fun _ => 0)), (oX2 q_12 q0_16 q1_17 1 1 1 1 0), (aI g q0_16 4 (upd (upd (upd (upd (fun _ => 0) 0 8) 1 8) 2 8) 3 8)), (aI g q1_17 4 (upd (upd (upd (upd (fun _ => 0) 0 8) 1 8) 2 8) 3 8)), (oX3 q_18 q0_22 q1_23), (aI g q0_22 36 (fun _ => 0)), (aI g q1_23 39 (fun _ => 0))] := hD
  exact he_rv hQ hx hb hr hlk hP hD hS dX8_init_48 (Nat.le_of_ble_eq_true rfl) (Nat.le_of_ble_eq_true rfl) ((q_1, q0_5, q1_6, q_7, q0_11, q_12, q0_16, q1_17, q_18, q0_22, q1_23)) (rfl) (trivial)
end
section
def beginF (sd st : Nat → Int32) (w : Nat) (f : Nat → Int32) : Nat → Int32 := lwF (upd (upd (upd (upd (upd (upd (upd (flF (fun _ => 0) f 24) 0 (sd 3)) 3 (sd 4)) 1 (sd 6)) 4 (sd 7)) 2 (sd 9)) 5 (sd 12)) 10 (-1)) st w
theorem he_within_nat {x b : Int32} {B : Nat} (hb : b = nI B) (hB : B < 2147483648) (h : ¬ he_within x 0 b = 0) : x = nI x.toNatClampNeg ∧ x.toNatClampNeg ≤ B := by
  unfold he_within at h
  by_cases h1 : x < 0
  · simp [h1] at h
  · by_cases h2 : b < x
    · simp [h1, h2] at h
    · obtain ⟨j, hj, rfl⟩ := nI_of h1
      rw [nI_clamp hj]
      subst hb
      exact ⟨rfl, Nat.le_of_not_lt (fun h9 => h2 (nI_lt h9 hj))⟩
theorem he_within_in {k B : Nat} {a b : Int32} {a0 : Nat} (ha : a = nI a0) (hb : b = nI B) (h0 : a0 ≤ k) (hk : k ≤ B) (hB : B < 2147483648) : he_within (nI k) a b = 1 := by
  subst ha hb
  unfold he_within
  rw [if_neg (nI_nlt h0 (by omega)), if_neg (nI_nlt hk hB)]
def mdA (st me f : Nat → Int32) (i : Nat) : Int32 := if st i - f (12 + i) < me i then st i - f (12 + i) else me i
def mdB (sd f : Nat → Int32) (a : Int32) : Int32 := if sd 18 ≤ 0 then a else if f 0 / sd 18 < a then f 0 / sd 18 else a
theorem mdB_le {sd f : Nat → Int32} {a : Int32} (h : sd 18 ≤ 0) : mdB sd f a = a := if_pos h
theorem mdB_gt {sd f : Nat → Int32} {a : Int32} (h : ¬ sd 18 ≤ 0) : mdB sd f a = if f 0 / sd 18 < a then f 0 / sd 18 else a := if_neg h
def mendS (sd st me f : Nat → Int32) (i : Nat) : Nat → Int32 := mvF (upd f (12 + i) (f (12 + i) + mdB sd f (mdA st me f i))) 0 2 (mdB sd f (mdA st me f i) * sd 18)
def mendF (sd st me f : Nat → Int32) : Nat → Nat → Int32
  | 0 => f
  | i + 1 => mendS sd st me (mendF sd st me f i) i
theorem mendF_s (sd st me f : Nat → Int32) (i : Nat) : mendF sd st me f (i + 1) = mendS sd st me (mendF sd st me f i) i := rfl
def taxF (sd f : Nat → Int32) : Nat → Int32 := mvF f 2 0 (f 3 * sd 10 * f 5 / 10000)
def psA (sd f : Nat → Int32) : Nat → Int32 := upd f 5 (if 0 < f 5 - sd 14 then f 5 - sd 14 else 0)
def psB (sd f : Nat → Int32) : Nat → Int32 := mvF f 0 2 (sd 5 * (f 3 / 10))
def psC (sd f : Nat → Int32) : Nat → Int32 := mvF f 1 2 (sd 8 * (f 4 / 10))
def psD (sd f : Nat → Int32) : Nat → Int32 := dsF f (sd 8 - sd 5)
def psT (sd st me : Nat → Int32) (w : Nat) (f : Nat → Int32) : Nat → Int32 := psD sd (psC sd (psB sd (mendF sd st me (psA sd f) w)))
def wpF (pd : Nat → Int32) : Int32 := if pd 1 = -1 then pd 0 else pd 1
def payF (pd : Nat → Int32) (mo : Int32) : Int32 := if 10 ≤ mo - mo / 12 * 12 then wpF pd else if 1 < mo - mo / 12 * 12 then pd 0 else wpF pd
def wdX (wb : Nat → Int32) (x : Int32) : Int32 := if he_within x 0 35 = 0 then -1 else wb x.toNatClampNeg
def wdF (wb : Nat → Int32) (x v : Int32) : Int32 := if v ≤ wdX wb x then -1 else wdX wb x
def faF (fn : Nat → Int32) (x : Int32) : Int32 := if he_within x 0 9 = 0 then 0 else fn x.toNatClampNeg
def dfF (f : Nat → Int32) : Nat → Int32 := upd (upd f 8 (f 8 + 1)) 10 (-1)
def clP (f : Nat → Int32) : Nat → Int32 := upd (upd (upd (upd (upd (upd f 0 0) 1 (-1)) 2 9) 3 0) 4 0) 5 36
def prP (f : Nat → Int32) (a b d till : Int32) : Nat → Int32 := upd (upd (upd (upd (clP f) 0 a) 2 b) 3 d) 5 till
def wantF (sd : Nat → Int32) (x k : Int32) : Int32 := sd 21 + sd 22 * k + sd 21 * (9 - x)
set_option maxHeartbeats 4000000 in
set_option maxRecDepth 100000 in
theorem c_X4_begin (l : Launch) (g : he_G) (h0 : Nat) (q0 : Nat) (q1 : Nat) (mo : Int32) (f : Nat → Int32) (p0 : Nat) (p1 : Nat) (p2 : Nat) (p3 : Nat) (p4 : Nat) (w : Nat) (sd : Nat → Int32) (st : Nat → Int32) (hw6 : w ≤ 6) : he_V l yX4_begin wsX4_begin 1 23 0 0 g [.ref h0, .ref p0] [(oX4 h0 q0 q1 mo), (aI g q0 24 f), (oX6 p0 p1 p2 p3 p4 (nI w)), (aI g p1 24 sd), (aI g p3 6 st)] (fun (u : Unit) => True) (fun (u : Unit) => [(oX4 h0 q0 q1 0), (aI g q0 24 (beginF sd st w f)), (oX6 p0 p1 p2 p3 p4 (nI w)), (aI g p1 24 sd), (aI g p3 6 st)]) := by
  refine he_begin (l := l) (g := g) (y := yX4_begin) (wl := wsX4_begin) (fr := 1) (lo := 23) (mc := 0) (ms := 0) (av := [.ref h0, .ref p0]) (ws := [(oX4 h0 q0 q1 mo), (aI g q0 24 f), (oX6 p0 p1 p2 p3 p4 (nI w)), (aI g p1 24 sd), (aI g p3 6 st)]) (cc := cX4_begin) (maxL := 3) (ret := none) (fun A => va_Qv (fun (u : Unit) => True) (fun u t => he_post g A ((fun (u : Unit) => [(oX4 h0 q0 q1 0), (aI g q0 24 (beginF sd st w f)), (oX6 p0 p1 p2 p3 p4 (nI w)), (aI g p1 24 sd), (aI g p3 6 st)]) u) t) A) (by decide) rfl (Nat.le_of_ble_eq_true rfl) ?_
  intro p e s m args below meth c A ls H locs Q hQ hB
  obtain ⟨hx, hb, hr, hml, hown, hts, hlk, hin, hP, hK, hD, hS, hA, hE, hl⟩ := hB
  have hl : lv_has ls 3 [(0, .ref h0), (1, .ref p0)] := hl
  have f18 := hts (.fieldLink RX4 18 "HiredEnemy$Course" "month" "I") (iwoX4_begin (k := 0) rfl)
  have inX4 : ∀ w ∈ wsX40, w ∈ wsX4_begin := innX4_begin_X4
  have f9 := hts (.fieldLink RX4 9 "HiredEnemy$Course" "now" "[I") (iwoX4_begin (k := 1) rfl)
  have f28 := hts (.fieldLink RX4 28 "HiredEnemy$Plan" "said" "[I") (iwoX4_begin (k := 2) rfl)
  have inX6 : ∀ w ∈ wsX60, w ∈ wsX4_begin := innX4_begin_X6
  have f33 := hts (.fieldLink RX4 33 "HiredEnemy$Plan" "walls" "I") (iwoX4_begin (k := 3) rfl)
  have f36 := hts (.fieldLink RX4 36 "HiredEnemy$Plan" "strength" "[I") (iwoX4_begin (k := 4) rfl)
  refine lv_aload_n hx hb dX4_begin_0 rfl (lv_at hl 0 rfl) ?_
  refine lv_iconst (v := 0) hx hb dX4_begin_1 (by decide) ?_
  refine va_put (v := .int 0) (ty := .int) (T := TX4) (N := 3) hx hb hts inX4 tyX4 tyX4_ok nmX4 hown hK hP hD hS 0 rfl rfl 2 (by decide) f18 (fun _ h9 => h9) rfl (by decide +kernel) rfl rfl (Nat.le_of_ble_eq_true rfl) dX4_begin_2 (fun H locs hP hD hS => ?_)
  have hP : va_P g.1 vwCl [(oX4 h0 q0 q1 0), (aI g q0 24 f), (oX6 p0 p1 p2 p3 p4 (nI w)), (aI g p1 24 sd), (aI g p3 6 st)] H := hP
  have hD : va_D A [(oX4 h0 q0 q1 0), (aI g q0 24 f), (oX6 p0 p1 p2 p3 p4 (nI w)), (aI g p1 24 sd), (aI g p3 6 st)] := hD
  refine lv_aload_n hx hb dX4_begin_5 rfl (lv_at hl 0 rfl) ?_
  refine va_get (v := .ref q0) (T := TX4) (N := 3) hx hb hts inX4 hown hK hP 0 rfl rfl 0 (by decide) f9 (fun _ h9 => h9) rfl dX4_begin_6 ?_
  refine lv_iconst (v := 0) hx hb dX4_begin_9 (by decide) ?_
  refine he_cv (wc := [(aI g q0 24 f)]) (wr := [(oX4 h0 q0 q1 0), (oX6 p0 p1 p2 p3 p4 (nI w)), (aI g p1 24 sd), (aI g p3 6 st)]) (va_runS (As := [.ref q0, .int 0]) (rest := []) ⟨hx, hb, hml, hown, hts⟩ (c_J7_fill_53178 l g q0 24 f 0 (by first | assumption | decide | omega) H.size) (va_cwS 2 hts gX4_begin_J7_fill_53178 rfl rfl rfl (by decide +kernel) ⟨Nat.le_of_ble_eq_true rfl, Nat.le_of_ble_eq_true rfl⟩) (he_preS (wc := [(aI g q0 24 f)]) hK hP hD hS hA hE [1] rfl rfl) rfl rfl hl.1 rfl (lv_room (Nat.le_of_ble_eq_true rfl)) dX4_begin_10 ⟨(Nat.le_of_ble_eq_true rfl), (Nat.le_of_ble_eq_true rfl)⟩) hP hD hS hA [1] [0, 2, 3, 4] rfl rfl rfl (by decide) (fun u_2 H locs h_3 hP hD hS => ?_)
  have hP : va_P g.1 vwCl [(oX4 h0 q0 q1 0), (oX6 p0 p1 p2 p3 p4 (nI w)), (aI g p1 24 sd), (aI g p3 6 st), (aI g q0 24 (flF (fun _ => 0) f 24))] H := hP
  have hD : va_D A [(oX4 h0 q0 q1 0), (oX6 p0 p1 p2 p3 p4 (nI w)), (aI g p1 24 sd), (aI g p3 6 st), (aI g q0 24 (flF (fun _ => 0) f 24))] := hD
  refine lv_aload_n hx hb dX4_begin_13 rfl (lv_at hl 0 rfl) ?_
  refine va_get (v := .ref q0) (T := TX4) (N := 3) hx hb hts inX4 hown hK hP 0 rfl rfl 0 (by decide) f9 (fun _ h9 => h9) rfl dX4_begin_14 ?_
  refine lv_iconst (v := 0) hx hb dX4_begin_17 (by decide) ?_
  refine lv_aload_n hx hb dX4_begin_18 rfl (lv_at hl 1 rfl) ?_
  refine va_get (v := .ref p1) (T := TX6) (N := 5) hx hb hts inX6 hown hK hP 1 rfl rfl 0 (by decide) f28 (fun _ h9 => h9) rfl dX4_begin_19 ?_
  refine lv_iconst (v := 3) hx hb dX4_begin_22 (by decide) ?_
  refine he_iald hx hb hK hP 2 rfl (3) (by decide) (by decide) (by first | decide | assumption) (sd 3) rfl dX4_begin_23 ?_
  refine he_iast hx hb hK hP hD hS 4 rfl (0) (by decide) (by decide) (by first | decide | assumption) dX4_begin_24 (fun H locs hP hD hS => ?_)
  have hP : va_P g.1 vwCl [(oX4 h0 q0 q1 0), (oX6 p0 p1 p2 p3 p4 (nI w)), (aI g p1 24 sd), (aI g p3 6 st), (aI g q0 24 (upd (flF (fun _ => 0) f 24) 0 (sd 3)))] H := hP
  have hD : va_D A [(oX4 h0 q0 q1 0), (oX6 p0 p1 p2 p3 p4 (nI w)), (aI g p1 24 sd), (aI g p3 6 st), (aI g q0 24 (upd (flF (fun _ => 0) f 24) 0 (sd 3)))] := hD
  refine lv_aload_n hx hb dX4_begin_25 rfl (lv_at hl 0 rfl) ?_
  refine va_get (v := .ref q0) (T := TX4) (N := 3) hx hb hts inX4 hown hK hP 0 rfl rfl 0 (by decide) f9 (fun _ h9 => h9) rfl dX4_begin_26 ?_
  refine lv_iconst (v := 3) hx hb dX4_begin_29 (by decide) ?_
  refine lv_aload_n hx hb dX4_begin_30 rfl (lv_at hl 1 rfl) ?_
  refine va_get (v := .ref p1) (T := TX6) (N := 5) hx hb hts inX6 hown hK hP 1 rfl rfl 0 (by decide) f28 (fun _ h9 => h9) rfl dX4_begin_31 ?_
  refine lv_iconst (v := 4) hx hb dX4_begin_34 (by decide) ?_
  refine he_iald hx hb hK hP 2 rfl (4) (by decide) (by decide) (by first | decide | assumption) (sd 4) rfl dX4_begin_35 ?_
  refine he_iast hx hb hK hP hD hS 4 rfl (3) (by decide) (by decide) (by first | decide | assumption) dX4_begin_36 (fun H locs hP hD hS => ?_)
  have hP : va_P g.1 vwCl [(oX4 h0 q0 q1 0), (oX6 p0 p1 p2 p3 p4 (nI w)), (aI g p1 24 sd), (aI g p3 6 st), (aI g q0 24 (upd (upd (flF (fun _ => 0) f 24) 0 (sd 3)) 3 (sd 4)))] H := hP
  have hD : va_D A [(oX4 h0 q0 q1 0), (oX6 p0 p1 p2 p3 p4 (nI w)), (aI g p1 24 sd), (aI g p3 6 st), (aI g q0 24 (upd (upd (flF (fun _ => 0) f 24) 0 (sd 3)) 3 (sd 4)))] := hD
  refine lv_aload_n hx hb dX4_begin_37 rfl (lv_at hl 0 rfl) ?_
  refine va_get (v := .ref q0) (T := TX4) (N := 3) hx hb hts inX4 hown hK hP 0 rfl rfl 0 (by decide) f9 (fun _ h9 => h9) rfl dX4_begin_38 ?_
  refine lv_iconst (v := 1) hx hb dX4_begin_41 (by decide) ?_
  refine lv_aload_n hx hb dX4_begin_42 rfl (lv_at hl 1 rfl) ?_
  refine va_get (v := .ref p1) (T := TX6) (N := 5) hx hb hts inX6 hown hK hP 1 rfl rfl 0 (by decide) f28 (fun _ h9 => h9) rfl dX4_begin_43 ?_
  refine lv_bipush (v := 6) hx hb dX4_begin_46 (by decide) ?_
  refine he_iald hx hb hK hP 2 rfl (6) (by decide) (by decide) (by first | decide | assumption) (sd 6) rfl dX4_begin_48 ?_
  refine he_iast hx hb hK hP hD hS 4 rfl (1) (by decide) (by decide) (by first | decide | assumption) dX4_begin_49 (fun H locs hP hD hS => ?_)
  have hP : va_P g.1 vwCl [(oX4 h0 q0 q1 0), (oX6 p0 p1 p2 p3 p4 (nI w)), (aI g p1 24 sd), (aI g p3 6 st), (aI g q0 24 (upd (upd (upd (flF (fun _ => 0) f 24) 0 (sd 3)) 3 (sd 4)) 1 (sd 6)))] H := hP
  have hD : va_D A [(oX4 h0 q0 q1 0), (oX6 p0 p1 p2 p3 p4 (nI w)), (aI g p1 24 sd), (aI g p3 6 st), (aI g q0 24 (upd (upd (upd (flF (fun _ => 0) f 24) 0 (sd 3)) 3 (sd 4)) 1 (sd 6)))] := hD
  refine lv_aload_n hx hb dX4_begin_50 rfl (lv_at hl 0 rfl) ?_
  refine va_get (v := .ref q0) (T := TX4) (N := 3) hx hb hts inX4 hown hK hP 0 rfl rfl 0 (by decide) f9 (fun _ h9 => h9) rfl dX4_begin_51 ?_
  refine lv_iconst (v := 4) hx hb dX4_begin_54 (by decide) ?_
  refine lv_aload_n hx hb dX4_begin_55 rfl (lv_at hl 1 rfl) ?_
  refine va_get (v := .ref p1) (T := TX6) (N := 5) hx hb hts inX6 hown hK hP 1 rfl rfl 0 (by decide) f28 (fun _ h9 => h9) rfl dX4_begin_56 ?_
  refine lv_bipush (v := 7) hx hb dX4_begin_59 (by decide) ?_
  refine he_iald hx hb hK hP 2 rfl (7) (by decide) (by decide) (by first | decide | assumption) (sd 7) rfl dX4_begin_61 ?_
  refine he_iast hx hb hK hP hD hS 4 rfl (4) (by decide) (by decide) (by first | decide | assumption) dX4_begin_62 (fun H locs hP hD hS => ?_)
  have hP : va_P g.1 vwCl [(oX4 h0 q0 q1 0), (oX6 p0 p1 p2 p3 p4 (nI w)), (aI g p1 24 sd), (aI g p3 6 st), (aI g q0 24 (upd (upd (upd (upd (flF (fun _ => 0) f 24) 0 (sd 3)) 3 (sd 4)) 1 (sd 6)) 4 (sd 7)))] H := hP
  have hD : va_D A [(oX4 h0 q0 q1 0), (oX6 p0 p1 p2 p3 p4 (nI w)), (aI g p1 24 sd), (aI g p3 6 st), (aI g q0 24 (upd (upd (upd (upd (flF (fun _ => 0) f 24) 0 (sd 3)) 3 (sd 4)) 1 (sd 6)) 4 (sd 7)))] := hD
  refine lv_aload_n hx hb dX4_begin_63 rfl (lv_at hl 0 rfl) ?_
  refine va_get (v := .ref q0) (T := TX4) (N := 3) hx hb hts inX4 hown hK hP 0 rfl rfl 0 (by decide) f9 (fun _ h9 => h9) rfl dX4_begin_64 ?_
  refine lv_iconst (v := 2) hx hb dX4_begin_67 (by decide) ?_
  refine lv_aload_n hx hb dX4_begin_68 rfl (lv_at hl 1 rfl) ?_
  refine va_get (v := .ref p1) (T := TX6) (N := 5) hx hb hts inX6 hown hK hP 1 rfl rfl 0 (by decide) f28 (fun _ h9 => h9) rfl dX4_begin_69 ?_
  refine lv_bipush (v := 9) hx hb dX4_begin_72 (by decide) ?_
  refine he_iald hx hb hK hP 2 rfl (9) (by decide) (by decide) (by first | decide | assumption) (sd 9) rfl dX4_begin_74 ?_
  refine he_iast hx hb hK hP hD hS 4 rfl (2) (by decide) (by decide) (by first | decide | assumption) dX4_begin_75 (fun H locs hP hD hS => ?_)
  have hP : va_P g.1 vwCl [(oX4 h0 q0 q1 0), (oX6 p0 p1 p2 p3 p4 (nI w)), (aI g p1 24 sd), (aI g p3 6 st), (aI g q0 24 (upd (upd (upd (upd (upd (flF (fun _ => 0) f 24) 0 (sd 3)) 3 (sd 4)) 1 (sd 6)) 4 (sd 7)) 2 (sd 9)))] H := hP
  have hD : va_D A [(oX4 h0 q0 q1 0), (oX6 p0 p1 p2 p3 p4 (nI w)), (aI g p1 24 sd), (aI g p3 6 st), (aI g q0 24 (upd (upd (upd (upd (upd (flF (fun _ => 0) f 24) 0 (sd 3)) 3 (sd 4)) 1 (sd 6)) 4 (sd 7)) 2 (sd 9)))] := hD
  refine lv_aload_n hx hb dX4_begin_76 rfl (lv_at hl 0 rfl) ?_
  refine va_get (v := .ref q0) (T := TX4) (N := 3) hx hb hts inX4 hown hK hP 0 rfl rfl 0 (by decide) f9 (fun _ h9 => h9) rfl dX4_begin_77 ?_
  refine lv_iconst (v := 5) hx hb dX4_begin_80 (by decide) ?_
  refine lv_aload_n hx hb dX4_begin_81 rfl (lv_at hl 1 rfl) ?_
  refine va_get (v := .ref p1) (T := TX6) (N := 5) hx hb hts inX6 hown hK hP 1 rfl rfl 0 (by decide) f28 (fun _ h9 => h9) rfl dX4_begin_82 ?_
  refine lv_bipush (v := 12) hx hb dX4_begin_85 (by decide) ?_
  refine he_iald hx hb hK hP 2 rfl (12) (by decide) (by decide) (by first | decide | assumption) (sd 12) rfl dX4_begin_87 ?_
  refine he_iast hx hb hK hP hD hS 4 rfl (5) (by decide) (by decide) (by first | decide | assumption) dX4_begin_88 (fun H locs hP hD hS => ?_)
  have hP : va_P g.1 vwCl [(oX4 h0 q0 q1 0), (oX6 p0 p1 p2 p3 p4 (nI w)), (aI g p1 24 sd), (aI g p3 6 st), (aI g q0 24 (upd (upd (upd (upd (upd (upd (flF (fun _ => 0) f 24) 0 (sd 3)) 3 (sd 4)) 1 (sd 6)) 4 (sd 7)) 2 (sd 9)) 5 (sd 12)))] H := hP
  have hD : va_D A [(oX4 h0 q0 q1 0), (oX6 p0 p1 p2 p3 p4 (nI w)), (aI g p1 24 sd), (aI g p3 6 st), (aI g q0 24 (upd (upd (upd (upd (upd (upd (flF (fun _ => 0) f 24) 0 (sd 3)) 3 (sd 4)) 1 (sd 6)) 4 (sd 7)) 2 (sd 9)) 5 (sd 12)))] := hD
  refine lv_aload_n hx hb dX4_begin_89 rfl (lv_at hl 0 rfl) ?_
  refine va_get (v := .ref q0) (T := TX4) (N := 3) hx hb hts inX4 hown hK hP 0 rfl rfl 0 (by decide) f9 (fun _ h9 => h9) rfl dX4_begin_90 ?_
  refine lv_bipush (v := 10) hx hb dX4_begin_93 (by decide) ?_
  refine lv_iconst (v := (-1)) hx hb dX4_begin_95 (by decide) ?_
  refine he_iast hx hb hK hP hD hS 4 rfl (10) (by decide) (by decide) (by first | decide | assumption) dX4_begin_96 (fun H locs hP hD hS => ?_)
  have hP : va_P g.1 vwCl [(oX4 h0 q0 q1 0), (oX6 p0 p1 p2 p3 p4 (nI w)), (aI g p1 24 sd), (aI g p3 6 st), (aI g q0 24 (upd (upd (upd (upd (upd (upd (upd (flF (fun _ => 0) f 24) 0 (sd 3)) 3 (sd 4)) 1 (sd 6)) 4 (sd 7)) 2 (sd 9)) 5 (sd 12)) 10 (-1)))] H := hP
  have hD : va_D A [(oX4 h0 q0 q1 0), (oX6 p0 p1 p2 p3 p4 (nI w)), (aI g p1 24 sd), (aI g p3 6 st), (aI g q0 24 (upd (upd (upd (upd (upd (upd (upd (flF (fun _ => 0) f 24) 0 (sd 3)) 3 (sd 4)) 1 (sd 6)) 4 (sd 7)) 2 (sd 9)) 5 (sd 12)) 10 (-1)))] := hD
  refine lv_iconst (v := 0) hx hb dX4_begin_97 (by decide) ?_
  refine lv_istore_n (lv' := [(2, .int 0), (0, .ref h0), (1, .ref p0)]) hx hb dX4_begin_98 rfl hl (by decide) rfl (fun ls hl => ?_)
  have loop99 : ∀ (n9 : Nat) (j : Nat), w - j < n9 → (j ≤ w) → ∀ (H : Heap) (locs : List Loc) (ls : Array Slot), va_P g.1 vwCl [(oX4 h0 q0 q1 0), (oX6 p0 p1 p2 p3 p4 (nI w)), (aI g p1 24 sd), (aI g p3 6 st), (aI g q0 24 (lwF (upd (upd (upd (upd (upd (upd (upd (flF (fun _ => 0) f 24) 0 (sd 3)) 3 (sd 4)) 1 (sd 6)) 4 (sd 7)) 2 (sd 9)) 5 (sd 12)) 10 (-1)) st j))] H → va_D A [(oX4 h0 q0 q1 0), (oX6 p0 p1 p2 p3 p4 (nI w)), (aI g p1 24 sd), (aI g p3 6 st), (aI g q0 24 (lwF (upd (upd (upd (upd (upd (upd (upd (flF (fun _ => 0) f 24) 0 (sd 3)) 3 (sd 4)) 1 (sd 6)) 4 (sd 7)) 2 (sd 9)) 5 (sd 12)) 10 (-1)) st j))] → va_S A s.heap H locs → lv_has ls 3 [(0, .ref h0), (1, .ref p0), (2, .int (nI j))] → W p l e (he_room 1 23 0 0) s m args below meth c H locs 0 0 Q (F0 m 99 ls []) := by
    intro n9
    induction n9 with
    | zero => intro j hm9; exact absurd hm9 (Nat.not_lt_zero _)
    | succ n9 ih99 =>
      intro j hm9 hj H locs ls hP hD hS hl
      refine lv_iload_n hx hb dX4_begin_99 rfl (lv_at hl 2 rfl) ?_
      refine lv_aload_n hx hb dX4_begin_100 rfl (lv_at hl 1 rfl) ?_
      refine va_get (v := .int (nI w)) (T := TX6) (N := 5) hx hb hts inX6 hown hK hP 1 rfl rfl 4 (by decide) f33 (fun _ h9 => h9) rfl dX4_begin_101 ?_
      refine lv_icmp_ge (tgt := 128) hx hb dX4_begin_104 (by decide) (fun c_4 => ?_) (fun c_4 => ?_)
      · have k_5 : w ≤ j := (he_cle (a := w) (b := j) rfl rfl (by omega) (by omega)).mp c_4
        have hP := hP.sub (ws' := [(oX4 h0 q0 q1 0), (aI g q0 24 (lwF (upd (upd (upd (upd (upd (upd (upd (flF (fun _ => 0) f 24) 0 (sd 3)) 3 (sd 4)) 1 (sd 6)) 4 (sd 7)) 2 (sd 9)) 5 (sd 12)) 10 (-1)) st j)), (oX6 p0 p1 p2 p3 p4 (nI w)), (aI g p1 24 sd), (aI g p3 6 st)]) [0, 4, 1, 2, 3] rfl
        have hD := hD.sub (ws' := [(oX4 h0 q0 q1 0), (aI g q0 24 (lwF (upd (upd (upd (upd (upd (upd (upd (flF (fun _ => 0) f 24) 0 (sd 3)) 3 (sd 4)) 1 (sd 6)) 4 (sd 7)) 2 (sd 9)) 5 (sd 12)) 10 (-1)) st j)), (oX6 p0 p1 p2 p3 p4 (nI w)), (aI g p1 24 sd), (aI g p3 6 st)]) [0, 4, 1, 2, 3] (by decide) rfl
        exact he_rv hQ hx hb hr hlk hP hD hS dX4_begin_128 (Nat.le_of_ble_eq_true rfl) (Nat.le_of_ble_eq_true rfl) (()) (by rw [beginF, show w = j by omega]) (trivial)
      · have k_6 : ¬ (w ≤ j) := fun h9 => c_4 ((he_cle (a := w) (b := j) rfl rfl (by omega) (by omega)).mpr h9)
        refine lv_aload_n hx hb dX4_begin_107 rfl (lv_at hl 0 rfl) ?_
        refine va_get (v := .ref q0) (T := TX4) (N := 3) hx hb hts inX4 hown hK hP 0 rfl rfl 0 (by decide) f9 (fun _ h9 => h9) rfl dX4_begin_108 ?_
        refine lv_bipush (v := 12) hx hb dX4_begin_111 (by decide) ?_
        refine lv_iload_n hx hb dX4_begin_113 rfl (lv_at hl 2 rfl) ?_
        refine lv_iadd hx hb dX4_begin_114 ?_
        refine he_top (nI (12 + j)) (nI_add 12 j) ?_
        refine lv_aload_n hx hb dX4_begin_115 rfl (lv_at hl 1 rfl) ?_
        refine va_get (v := .ref p3) (T := TX6) (N := 5) hx hb hts inX6 hown hK hP 1 rfl rfl 2 (by decide) f36 (fun _ h9 => h9) rfl dX4_begin_116 ?_
        refine lv_iload_n hx hb dX4_begin_119 rfl (lv_at hl 2 rfl) ?_
        refine he_iald hx hb hK hP 3 rfl (j) rfl (by first | assumption | decide | omega) (by first | decide | assumption) (st j) rfl dX4_begin_120 ?_
        refine he_iast hx hb hK hP hD hS 4 rfl (12 + j) rfl (by first | assumption | decide | omega) (by first | decide | assumption) dX4_begin_121 (fun H locs hP hD hS => ?_)
        have hP : va_P g.1 vwCl [(oX4 h0 q0 q1 0), (oX6 p0 p1 p2 p3 p4 (nI w)), (aI g p1 24 sd), (aI g p3 6 st), (aI g q0 24 (upd (lwF (upd (upd (upd (upd (upd (upd (upd (flF (fun _ => 0) f 24) 0 (sd 3)) 3 (sd 4)) 1 (sd 6)) 4 (sd 7)) 2 (sd 9)) 5 (sd 12)) 10 (-1)) st j) (12 + j) (st j)))] H := hP
        have hD : va_D A [(oX4 h0 q0 q1 0), (oX6 p0 p1 p2 p3 p4 (nI w)), (aI g p1 24 sd), (aI g p3 6 st), (aI g q0 24 (upd (lwF (upd (upd (upd (upd (upd (upd (upd (flF (fun _ => 0) f 24) 0 (sd 3)) 3 (sd 4)) 1 (sd 6)) 4 (sd 7)) 2 (sd 9)) 5 (sd 12)) 10 (-1)) st j) (12 + j) (st j)))] := hD
        refine lv_iinc (v := nI (j + 1)) (lv' := [(2, .int (nI (j + 1))), (0, .ref h0), (1, .ref p0)]) hx hb dX4_begin_122 hl (k := 2) rfl (nI_1 j) (by decide) rfl (fun ls hl => ?_)
        refine lv_goto (tgt := 99) hx hb dX4_begin_125 (by decide) ?_
        have hP : va_P g.1 vwCl [(oX4 h0 q0 q1 0), (oX6 p0 p1 p2 p3 p4 (nI w)), (aI g p1 24 sd), (aI g p3 6 st), (aI g q0 24 (lwF (upd (upd (upd (upd (upd (upd (upd (flF (fun _ => 0) f 24) 0 (sd 3)) 3 (sd 4)) 1 (sd 6)) 4 (sd 7)) 2 (sd 9)) 5 (sd 12)) 10 (-1)) st (j + 1)))] H := by rw [← lwF_s]; exact hP
        have hD : va_D A [(oX4 h0 q0 q1 0), (oX6 p0 p1 p2 p3 p4 (nI w)), (aI g p1 24 sd), (aI g p3 6 st), (aI g q0 24 (lwF (upd (upd (upd (upd (upd (upd (upd (flF (fun _ => 0) f 24) 0 (sd 3)) 3 (sd 4)) 1 (sd 6)) 4 (sd 7)) 2 (sd 9)) 5 (sd 12)) 10 (-1)) st (j + 1)))] := by rw [← lwF_s]; exact hD
        exact ih99 (j + 1) (by omega) (by omega) _ _ _ hP hD hS (lv_sub hl [1, 2, 0] rfl)
  have hP : va_P g.1 vwCl [(oX4 h0 q0 q1 0), (oX6 p0 p1 p2 p3 p4 (nI w)), (aI g p1 24 sd), (aI g p3 6 st), (aI g q0 24 (lwF (upd (upd (upd (upd (upd (upd (upd (flF (fun _ => 0) f 24) 0 (sd 3)) 3 (sd 4)) 1 (sd 6)) 4 (sd 7)) 2 (sd 9)) 5 (sd 12)) 10 (-1)) st 0))] H := by rw [lwF_0]; exact hP
  have hD : va_D A [(oX4 h0 q0 q1 0), (oX6 p0 p1 p2 p3 p4 (nI w)), (aI g p1 24 sd), (aI g p3 6 st), (aI g q0 24 (lwF (upd (upd (upd (upd (upd (upd (upd (flF (fun _ => 0) f 24) 0 (sd 3)) 3 (sd 4)) 1 (sd 6)) 4 (sd 7)) 2 (sd 9)) 5 (sd 12)) 10 (-1)) st 0))] := by rw [lwF_0]; exact hD
  exact loop99 ((w - 0) + 1) 0 (Nat.lt_succ_self _) (Nat.zero_le _) _ _ _ hP hD hS (lv_sub hl [1, 2, 0] rfl)
set_option maxHeartbeats 4000000 in
set_option maxRecDepth 100000 in
theorem c_X4_take (l : Launch) (g : he_G) (h0 : Nat) (q0 : Nat) (q1 : Nat) (mo : Int32) (f : Nat → Int32) (h1 : Nat) (r0 : Nat) (r1 : Nat) (mo1 : Int32) (f1 : Nat → Int32)  : he_V l yX4_take wsX4_take 1 18 0 0 g [.ref h0, .ref h1] [(oX4 h0 q0 q1 mo), (aI g q0 24 f), (oX4 h1 r0 r1 mo1), (aI g r0 24 f1)] (fun (u : Unit) => True) (fun (u : Unit) => [(oX4 h0 q0 q1 mo1), (aI g q0 24 (va_cpy f1 f 0 0 24)), (oX4 h1 r0 r1 mo1), (aI g r0 24 f1)]) := by
  refine he_begin (l := l) (g := g) (y := yX4_take) (wl := wsX4_take) (fr := 1) (lo := 18) (mc := 0) (ms := 0) (av := [.ref h0, .ref h1]) (ws := [(oX4 h0 q0 q1 mo), (aI g q0 24 f), (oX4 h1 r0 r1 mo1), (aI g r0 24 f1)]) (cc := cX4_take) (maxL := 2) (ret := none) (fun A => va_Qv (fun (u : Unit) => True) (fun u t => he_post g A ((fun (u : Unit) => [(oX4 h0 q0 q1 mo1), (aI g q0 24 (va_cpy f1 f 0 0 24)), (oX4 h1 r0 r1 mo1), (aI g r0 24 f1)]) u) t) A) (by decide) rfl (Nat.le_of_ble_eq_true rfl) ?_
  intro p e s m args below meth c A ls H locs Q hQ hB
  obtain ⟨hx, hb, hr, hml, hown, hts, hlk, hin, hP, hK, hD, hS, hA, hE, hl⟩ := hB
  have hl : lv_has ls 2 [(0, .ref h0), (1, .ref h1)] := hl
  have f9 := hts (.fieldLink RX4 9 "HiredEnemy$Course" "now" "[I") (iwoX4_take (k := 0) rfl)
  have inX4 : ∀ w ∈ wsX40, w ∈ wsX4_take := innX4_take_X4
  have al39 := hts (.methodLink RX4 39 arraycopyName) (iwoX4_take (k := 1) rfl)
  have an := hts (.native arraycopyName) (iwoX4_take (k := 2) rfl)
  have ast := hts (.static arraycopyName) (iwoX4_take (k := 3) rfl)
  have ai := hts (.initialized "java/lang/System") (iwoX4_take (k := 4) rfl)
  have f18 := hts (.fieldLink RX4 18 "HiredEnemy$Course" "month" "I") (iwoX4_take (k := 5) rfl)
  refine lv_aload_n hx hb dX4_take_0 rfl (lv_at hl 1 rfl) ?_
  refine va_get (v := .ref r0) (T := TX4) (N := 3) hx hb hts inX4 hown hK hP 2 rfl rfl 0 (by decide) f9 (fun _ h9 => h9) rfl dX4_take_1 ?_
  refine lv_iconst (v := 0) hx hb dX4_take_4 (by decide) ?_
  refine lv_aload_n hx hb dX4_take_5 rfl (lv_at hl 0 rfl) ?_
  refine va_get (v := .ref q0) (T := TX4) (N := 3) hx hb hts inX4 hown hK hP 0 rfl rfl 0 (by decide) f9 (fun _ h9 => h9) rfl dX4_take_6 ?_
  refine lv_iconst (v := 0) hx hb dX4_take_9 (by decide) ?_
  refine lv_bipush (v := 24) hx hb dX4_take_10 (by decide) ?_
  refine he_copy hx hb (by rw [hml]; exact hl.1.symm) hown al39 an ast ai hK hP hD hS 3 1 rfl rfl (0) (0) (24) (by decide) (by decide) (by decide) (by first | decide | omega) (by first | decide | omega) (by decide) (by decide) (Nat.le_of_ble_eq_true rfl) (Nat.le_of_ble_eq_true rfl) dX4_take_12 (fun H locs hP hD hS => ?_)
  have hP : va_P g.1 vwCl [(oX4 h0 q0 q1 mo), (aI g q0 24 (va_cpy f1 f 0 0 24)), (oX4 h1 r0 r1 mo1), (aI g r0 24 f1)] H := hP
  have hD : va_D A [(oX4 h0 q0 q1 mo), (aI g q0 24 (va_cpy f1 f 0 0 24)), (oX4 h1 r0 r1 mo1), (aI g r0 24 f1)] := hD
  refine lv_aload_n hx hb dX4_take_15 rfl (lv_at hl 0 rfl) ?_
  refine lv_aload_n hx hb dX4_take_16 rfl (lv_at hl 1 rfl) ?_
  refine va_get (v := .int mo1) (T := TX4) (N := 3) hx hb hts inX4 hown hK hP 2 rfl rfl 2 (by decide) f18 (fun _ h9 => h9) rfl dX4_take_17 ?_
  refine va_put (v := .int mo1) (ty := .int) (T := TX4) (N := 3) hx hb hts inX4 tyX4 tyX4_ok nmX4 hown hK hP hD hS 0 rfl rfl 2 (by decide) f18 (fun _ h9 => h9) rfl (by decide +kernel) rfl rfl (Nat.le_of_ble_eq_true rfl) dX4_take_20 (fun H locs hP hD hS => ?_)
  have hP : va_P g.1 vwCl [(oX4 h0 q0 q1 mo1), (aI g q0 24 (va_cpy f1 f 0 0 24)), (oX4 h1 r0 r1 mo1), (aI g r0 24 f1)] H := hP
  have hD : va_D A [(oX4 h0 q0 q1 mo1), (aI g q0 24 (va_cpy f1 f 0 0 24)), (oX4 h1 r0 r1 mo1), (aI g r0 24 f1)] := hD
  exact he_rv hQ hx hb hr hlk hP hD hS dX4_take_23 (Nat.le_of_ble_eq_true rfl) (Nat.le_of_ble_eq_true rfl) (()) (rfl) (trivial)
set_option maxHeartbeats 4000000 in
set_option maxRecDepth 100000 in
theorem c_X4_mend (l : Launch) (g : he_G) (h0 : Nat) (q0 : Nat) (q1 : Nat) (mo : Int32) (f : Nat → Int32) (p0 : Nat) (p1 : Nat) (p2 : Nat) (p3 : Nat) (p4 : Nat) (w : Nat) (sd : Nat → Int32) (st : Nat → Int32) (me : Nat → Int32) (hw6 : w ≤ 6) : he_V l yX4_mend wsX4_mend 2 37 0 0 g [.ref h0, .ref p0] [(oX4 h0 q0 q1 mo), (aI g q0 24 f), (oX6 p0 p1 p2 p3 p4 (nI w)), (aI g p1 24 sd), (aI g p3 6 st), (aI g p4 6 me)] (fun (u : Unit) => True) (fun (u : Unit) => [(oX4 h0 q0 q1 mo), (aI g q0 24 (mendF sd st me f w)), (oX6 p0 p1 p2 p3 p4 (nI w)), (aI g p1 24 sd), (aI g p3 6 st), (aI g p4 6 me)]) := by
  refine he_begin (l := l) (g := g) (y := yX4_mend) (wl := wsX4_mend) (fr := 2) (lo := 37) (mc := 0) (ms := 0) (av := [.ref h0, .ref p0]) (ws := [(oX4 h0 q0 q1 mo), (aI g q0 24 f), (oX6 p0 p1 p2 p3 p4 (nI w)), (aI g p1 24 sd), (aI g p3 6 st), (aI g p4 6 me)]) (cc := cX4_mend) (maxL := 5) (ret := none) (fun A => va_Qv (fun (u : Unit) => True) (fun u t => he_post g A ((fun (u : Unit) => [(oX4 h0 q0 q1 mo), (aI g q0 24 (mendF sd st me f w)), (oX6 p0 p1 p2 p3 p4 (nI w)), (aI g p1 24 sd), (aI g p3 6 st), (aI g p4 6 me)]) u) t) A) (by decide) rfl (Nat.le_of_ble_eq_true rfl) ?_
  intro p e s m args below meth c A ls H locs Q hQ hB
  obtain ⟨hx, hb, hr, hml, hown, hts, hlk, hin, hP, hK, hD, hS, hA, hE, hl⟩ := hB
  have hl : lv_has ls 5 [(0, .ref h0), (1, .ref p0)] := hl
  have f28 := hts (.fieldLink RX4 28 "HiredEnemy$Plan" "said" "[I") (iwoX4_mend (k := 0) rfl)
  have inX6 : ∀ w ∈ wsX60, w ∈ wsX4_mend := innX4_mend_X6
  have f33 := hts (.fieldLink RX4 33 "HiredEnemy$Plan" "walls" "I") (iwoX4_mend (k := 1) rfl)
  have f97 := hts (.fieldLink RX4 97 "HiredEnemy$Plan" "mended" "[I") (iwoX4_mend (k := 2) rfl)
  have f36 := hts (.fieldLink RX4 36 "HiredEnemy$Plan" "strength" "[I") (iwoX4_mend (k := 3) rfl)
  have f9 := hts (.fieldLink RX4 9 "HiredEnemy$Course" "now" "[I") (iwoX4_mend (k := 4) rfl)
  have inX4 : ∀ w ∈ wsX40, w ∈ wsX4_mend := innX4_mend_X4
  have ml81 := hts (.methodLink RX4 81 Lib.Math.min.name) (iwoX4_mend (k := 5) rfl)
  have msmin := hts (.static Lib.Math.min.name) (iwoX4_mend (k := 6) rfl)
  have mi := hts (.initialized "java/lang/Math") (iwoX4_mend (k := 7) rfl)
  have mcmin := hts (.code Lib.Math.min.name Lib.Math.min.code 2 (some .int)) (by decide +kernel)
  refine lv_aload_n hx hb dX4_mend_0 rfl (lv_at hl 1 rfl) ?_
  refine va_get (v := .ref p1) (T := TX6) (N := 5) hx hb hts inX6 hown hK hP 2 rfl rfl 0 (by decide) f28 (fun _ h9 => h9) rfl dX4_mend_1 ?_
  refine lv_bipush (v := 18) hx hb dX4_mend_4 (by decide) ?_
  refine he_iald hx hb hK hP 3 rfl (18) (by decide) (by decide) (by first | decide | assumption) (sd 18) rfl dX4_mend_6 ?_
  refine lv_istore_n (lv' := [(2, .int (sd 18)), (0, .ref h0), (1, .ref p0)]) hx hb dX4_mend_7 rfl hl (by decide) rfl (fun ls hl => ?_)
  refine lv_iconst (v := 0) hx hb dX4_mend_8 (by decide) ?_
  refine lv_istore_n (lv' := [(3, .int 0), (2, .int (sd 18)), (0, .ref h0), (1, .ref p0)]) hx hb dX4_mend_9 rfl hl (by decide) rfl (fun ls hl => ?_)
  have loop10 : ∀ (n9 : Nat) (j : Nat), w - j < n9 → (j ≤ w) → ∀ (H : Heap) (locs : List Loc) (ls : Array Slot), va_P g.1 vwCl [(oX4 h0 q0 q1 mo), (aI g q0 24 (mendF sd st me f j)), (oX6 p0 p1 p2 p3 p4 (nI w)), (aI g p1 24 sd), (aI g p3 6 st), (aI g p4 6 me)] H → va_D A [(oX4 h0 q0 q1 mo), (aI g q0 24 (mendF sd st me f j)), (oX6 p0 p1 p2 p3 p4 (nI w)), (aI g p1 24 sd), (aI g p3 6 st), (aI g p4 6 me)] → va_S A s.heap H locs → lv_has ls 5 [(0, .ref h0), (1, .ref p0), (2, .int (sd 18)), (3, .int (nI j))] → W p l e (he_room 2 37 0 0) s m args below meth c H locs 0 0 Q (F0 m 10 ls []) := by
    intro n9
    induction n9 with
    | zero => intro j hm9; exact absurd hm9 (Nat.not_lt_zero _)
    | succ n9 ih10 =>
      intro j hm9 hj H locs ls hP hD hS hl
      refine lv_iload_n hx hb dX4_mend_10 rfl (lv_at hl 3 rfl) ?_
      refine lv_aload_n hx hb dX4_mend_11 rfl (lv_at hl 1 rfl) ?_
      refine va_get (v := .int (nI w)) (T := TX6) (N := 5) hx hb hts inX6 hown hK hP 2 rfl rfl 4 (by decide) f33 (fun _ h9 => h9) rfl dX4_mend_12 ?_
      refine lv_icmp_ge (tgt := 94) hx hb dX4_mend_15 (by decide) (fun c_1 => ?_) (fun c_1 => ?_)
      · have k_2 : w ≤ j := (he_cle (a := w) (b := j) rfl rfl (by omega) (by omega)).mp c_1
        exact he_rv hQ hx hb hr hlk hP hD hS dX4_mend_94 (Nat.le_of_ble_eq_true rfl) (Nat.le_of_ble_eq_true rfl) (()) (by rw [show w = j by omega]) (trivial)
      · have k_3 : ¬ (w ≤ j) := fun h9 => c_1 ((he_cle (a := w) (b := j) rfl rfl (by omega) (by omega)).mpr h9)
        refine lv_aload_n hx hb dX4_mend_18 rfl (lv_at hl 1 rfl) ?_
        refine va_get (v := .ref p4) (T := TX6) (N := 5) hx hb hts inX6 hown hK hP 2 rfl rfl 3 (by decide) f97 (fun _ h9 => h9) rfl dX4_mend_19 ?_
        refine lv_iload_n hx hb dX4_mend_22 rfl (lv_at hl 3 rfl) ?_
        refine he_iald hx hb hK hP 5 rfl (j) rfl (by first | assumption | decide | omega) (by first | decide | assumption) (me j) rfl dX4_mend_23 ?_
        refine lv_aload_n hx hb dX4_mend_24 rfl (lv_at hl 1 rfl) ?_
        refine va_get (v := .ref p3) (T := TX6) (N := 5) hx hb hts inX6 hown hK hP 2 rfl rfl 2 (by decide) f36 (fun _ h9 => h9) rfl dX4_mend_25 ?_
        refine lv_iload_n hx hb dX4_mend_28 rfl (lv_at hl 3 rfl) ?_
        refine he_iald hx hb hK hP 4 rfl (j) rfl (by first | assumption | decide | omega) (by first | decide | assumption) (st j) rfl dX4_mend_29 ?_
        refine lv_aload_n hx hb dX4_mend_30 rfl (lv_at hl 0 rfl) ?_
        refine va_get (v := .ref q0) (T := TX4) (N := 3) hx hb hts inX4 hown hK hP 0 rfl rfl 0 (by decide) f9 (fun _ h9 => h9) rfl dX4_mend_31 ?_
        refine lv_bipush (v := 12) hx hb dX4_mend_34 (by decide) ?_
        refine lv_iload_n hx hb dX4_mend_36 rfl (lv_at hl 3 rfl) ?_
        refine lv_iadd hx hb dX4_mend_37 ?_
        refine he_top (nI (12 + j)) (nI_add 12 j) ?_
        refine he_iald hx hb hK hP 1 rfl (12 + j) rfl (by first | assumption | decide | omega) (by first | decide | assumption) ((mendF sd st me f j) (12 + j)) rfl dX4_mend_38 ?_
        refine lv_isub hx hb dX4_mend_39 ?_
        refine va_mmin hx hb (by rw [hml]; exact hl.1.symm) hown ml81 msmin mi mcmin (by decide) (Nat.le_of_ble_eq_true rfl) (Nat.le_of_ble_eq_true rfl) (Nat.le_of_ble_eq_true rfl) dX4_mend_40 ?_
        refine he_top (mdA st me (mendF sd st me f j) j) rfl ?_
        refine lv_istore (lv' := [(4, .int (mdA st me (mendF sd st me f j) j)), (0, .ref h0), (1, .ref p0), (2, .int (sd 18)), (3, .int (nI j))]) hx hb dX4_mend_43 hl (by decide) rfl (fun ls hl => ?_)
        refine lv_iload_n hx hb dX4_mend_45 rfl (lv_at hl 3 rfl) ?_
        refine lv_if_le (tgt := 64) hx hb dX4_mend_46 (by decide) (fun c_4 => ?_) (fun c_4 => ?_)
        · refine lv_aload_n hx hb dX4_mend_64 rfl (lv_at hl 1 rfl) ?_
          refine va_get (v := .ref q0) (T := TX4) (N := 3) hx hb hts inX4 hown hK hP 0 rfl rfl 0 (by decide) f9 (fun _ h9 => h9) rfl dX4_mend_65 ?_
          refine lv_bipush (v := 12) hx hb dX4_mend_68 (by decide) ?_
          refine lv_iload_n hx hb dX4_mend_70 rfl (lv_at hl 4 rfl) ?_
          refine lv_iadd hx hb dX4_mend_71 ?_
          refine he_top (nI (12 + j)) (nI_add 12 j) ?_
          refine lv_dup2_11 hx hb dX4_mend_72 rfl rfl ?_
          refine he_iald hx hb hK hP 1 rfl (12 + j) rfl (by first | assumption | decide | omega) (by first | decide | assumption) ((mendF sd st me f j) (12 + j)) rfl dX4_mend_73 ?_
          refine lv_iload hx hb dX4_mend_74 (lv_at hl 0 rfl) ?_
          refine lv_iadd hx hb dX4_mend_76 ?_
          refine he_iast hx hb hK hP hD hS 1 rfl (12 + j) rfl (by first | assumption | decide | omega) (by first | decide | assumption) dX4_mend_77 (fun H locs hP hD hS => ?_)
          have hP : va_P g.1 vwCl [(oX4 h0 q0 q1 mo), (aI g q0 24 (upd (mendF sd st me f j) (12 + j) (((mendF sd st me f j) (12 + j)) + (mdA st me (mendF sd st me f j) j)))), (oX6 p0 p1 p2 p3 p4 (nI w)), (aI g p1 24 sd), (aI g p3 6 st), (aI g p4 6 me)] H := hP
          have hD : va_D A [(oX4 h0 q0 q1 mo), (aI g q0 24 (upd (mendF sd st me f j) (12 + j) (((mendF sd st me f j) (12 + j)) + (mdA st me (mendF sd st me f j) j)))), (oX6 p0 p1 p2 p3 p4 (nI w)), (aI g p1 24 sd), (aI g p3 6 st), (aI g p4 6 me)] := hD
          refine lv_aload_n hx hb dX4_mend_78 rfl (lv_at hl 1 rfl) ?_
          refine lv_iconst (v := 0) hx hb dX4_mend_79 (by decide) ?_
          refine lv_iconst (v := 2) hx hb dX4_mend_80 (by decide) ?_
          refine lv_iload hx hb dX4_mend_81 (lv_at hl 0 rfl) ?_
          refine lv_iload_n hx hb dX4_mend_83 rfl (lv_at hl 3 rfl) ?_
          refine lv_imul hx hb dX4_mend_84 ?_
          refine he_cv (wc := [(oX4 h0 q0 q1 mo), (aI g q0 24 (upd (mendF sd st me f j) (12 + j) (((mendF sd st me f j) (12 + j)) + (mdA st me (mendF sd st me f j) j))))]) (wr := [(oX6 p0 p1 p2 p3 p4 (nI w)), (aI g p1 24 sd), (aI g p3 6 st), (aI g p4 6 me)]) (va_runV (As := [.int 0, .int 2, .int ((mdA st me (mendF sd st me f j) j) * (sd 18))]) (rest := []) ⟨hx, hb, hml, hown, hts⟩ (c_X4_move l g h0 q0 q1 mo (upd (mendF sd st me f j) (12 + j) (((mendF sd st me f j) (12 + j)) + (mdA st me (mendF sd st me f j) j))) 0 2 ((mdA st me (mendF sd st me f j) j) * (sd 18)) (by first | assumption | decide | omega) (by first | assumption | decide | omega) H.size) (cwV 3 hts gX4_mend_X4_move rfl rfl rfl (by decide +kernel) ⟨Nat.le_of_ble_eq_true rfl, Nat.le_of_ble_eq_true rfl⟩) (he_preV (wc := [(oX4 h0 q0 q1 mo), (aI g q0 24 (upd (mendF sd st me f j) (12 + j) (((mendF sd st me f j) (12 + j)) + (mdA st me (mendF sd st me f j) j))))]) hK hP hD hS hA hE [0, 1] rfl rfl 0 rfl rfl) rfl rfl hl.1 rfl (lv_room (Nat.le_of_ble_eq_true rfl)) dX4_mend_85 ⟨(Nat.le_of_ble_eq_true rfl), (Nat.le_of_ble_eq_true rfl)⟩) hP hD hS hA [0, 1] [2, 3, 4, 5] rfl rfl rfl (by decide) (fun u_6 H locs h_7 hP hD hS => ?_)
          have hP : va_P g.1 vwCl [(oX6 p0 p1 p2 p3 p4 (nI w)), (aI g p1 24 sd), (aI g p3 6 st), (aI g p4 6 me), (oX4 h0 q0 q1 mo), (aI g q0 24 (mvF (upd (mendF sd st me f j) (12 + j) (((mendF sd st me f j) (12 + j)) + (mdA st me (mendF sd st me f j) j))) 0 2 ((mdA st me (mendF sd st me f j) j) * (sd 18))))] H := hP
          have hD : va_D A [(oX6 p0 p1 p2 p3 p4 (nI w)), (aI g p1 24 sd), (aI g p3 6 st), (aI g p4 6 me), (oX4 h0 q0 q1 mo), (aI g q0 24 (mvF (upd (mendF sd st me f j) (12 + j) (((mendF sd st me f j) (12 + j)) + (mdA st me (mendF sd st me f j) j))) 0 2 ((mdA st me (mendF sd st me f j) j) * (sd 18))))] := hD
          refine lv_iinc (v := nI (j + 1)) (lv' := [(3, .int (nI (j + 1))), (4, .int (mdA st me (mendF sd st me f j) j)), (0, .ref h0), (1, .ref p0), (2, .int (sd 18))]) hx hb dX4_mend_88 hl (k := 4) rfl (nI_1 j) (by decide) rfl (fun ls hl => ?_)
          refine lv_goto (tgt := 10) hx hb dX4_mend_91 (by decide) ?_
          have hP : va_P g.1 vwCl [(oX6 p0 p1 p2 p3 p4 (nI w)), (aI g p1 24 sd), (aI g p3 6 st), (aI g p4 6 me), (oX4 h0 q0 q1 mo), (aI g q0 24 (mendF sd st me f (j + 1)))] H := by rw [mendF_s, mendS, mdB_le c_4]; exact hP
          have hD : va_D A [(oX6 p0 p1 p2 p3 p4 (nI w)), (aI g p1 24 sd), (aI g p3 6 st), (aI g p4 6 me), (oX4 h0 q0 q1 mo), (aI g q0 24 (mendF sd st me f (j + 1)))] := by rw [mendF_s, mendS, mdB_le c_4]; exact hD
          exact ih10 (j + 1) (by omega) (by omega) _ _ _ (hP.sub [4, 5, 0, 1, 2, 3] rfl) (hD.sub [4, 5, 0, 1, 2, 3] (by decide) rfl) hS (lv_sub hl [2, 3, 4, 0] rfl)
        · refine lv_iload hx hb dX4_mend_49 (lv_at hl 0 rfl) ?_
          refine lv_aload_n hx hb dX4_mend_51 rfl (lv_at hl 1 rfl) ?_
          refine va_get (v := .ref q0) (T := TX4) (N := 3) hx hb hts inX4 hown hK hP 0 rfl rfl 0 (by decide) f9 (fun _ h9 => h9) rfl dX4_mend_52 ?_
          refine lv_iconst (v := 0) hx hb dX4_mend_55 (by decide) ?_
          refine he_iald hx hb hK hP 1 rfl (0) (by decide) (by decide) (by first | decide | assumption) ((mendF sd st me f j) 0) rfl dX4_mend_56 ?_
          refine lv_iload_n hx hb dX4_mend_57 rfl (lv_at hl 3 rfl) ?_
          refine lv_idiv hx hb dX4_mend_58 (fun h9 => c_4 (by rw [h9]; decide)) ?_
          refine va_mmin hx hb (by rw [hml]; exact hl.1.symm) hown ml81 msmin mi mcmin (by decide) (Nat.le_of_ble_eq_true rfl) (Nat.le_of_ble_eq_true rfl) (Nat.le_of_ble_eq_true rfl) dX4_mend_59 ?_
          refine lv_istore (lv' := [(4, .int (if (((mendF sd st me f j) 0) / (sd 18)) < (mdA st me (mendF sd st me f j) j) then ((mendF sd st me f j) 0) / (sd 18) else mdA st me (mendF sd st me f j) j)), (0, .ref h0), (1, .ref p0), (2, .int (sd 18)), (3, .int (nI j))]) hx hb dX4_mend_62 hl (by decide) rfl (fun ls hl => ?_)
          refine lv_aload_n hx hb dX4_mend_64 rfl (lv_at hl 1 rfl) ?_
          refine va_get (v := .ref q0) (T := TX4) (N := 3) hx hb hts inX4 hown hK hP 0 rfl rfl 0 (by decide) f9 (fun _ h9 => h9) rfl dX4_mend_65 ?_
          refine lv_bipush (v := 12) hx hb dX4_mend_68 (by decide) ?_
          refine lv_iload_n hx hb dX4_mend_70 rfl (lv_at hl 4 rfl) ?_
          refine lv_iadd hx hb dX4_mend_71 ?_
          refine he_top (nI (12 + j)) (nI_add 12 j) ?_
          refine lv_dup2_11 hx hb dX4_mend_72 rfl rfl ?_
          refine he_iald hx hb hK hP 1 rfl (12 + j) rfl (by first | assumption | decide | omega) (by first | decide | assumption) ((mendF sd st me f j) (12 + j)) rfl dX4_mend_73 ?_
          refine lv_iload hx hb dX4_mend_74 (lv_at hl 0 rfl) ?_
          refine lv_iadd hx hb dX4_mend_76 ?_
          refine he_iast hx hb hK hP hD hS 1 rfl (12 + j) rfl (by first | assumption | decide | omega) (by first | decide | assumption) dX4_mend_77 (fun H locs hP hD hS => ?_)
          have hP : va_P g.1 vwCl [(oX4 h0 q0 q1 mo), (aI g q0 24 (upd (mendF sd st me f j) (12 + j) (((mendF sd st me f j) (12 + j)) + (if (((mendF sd st me f j) 0) / (sd 18)) < (mdA st me (mendF sd st me f j) j) then ((mendF sd st me f j) 0) / (sd 18) else mdA st me (mendF sd st me f j) j)))), (oX6 p0 p1 p2 p3 p4 (nI w)), (aI g p1 24 sd), (aI g p3 6 st), (aI g p4 6 me)] H := hP
          have hD : va_D A [(oX4 h0 q0 q1 mo), (aI g q0 24 (upd (mendF sd st me f j) (12 + j) (((mendF sd st me f j) (12 + j)) + (if (((mendF sd st me f j) 0) / (sd 18)) < (mdA st me (mendF sd st me f j) j) then ((mendF sd st me f j) 0) / (sd 18) else mdA st me (mendF sd st me f j) j)))), (oX6 p0 p1 p2 p3 p4 (nI w)), (aI g p1 24 sd), (aI g p3 6 st), (aI g p4 6 me)] := hD
          refine lv_aload_n hx hb dX4_mend_78 rfl (lv_at hl 1 rfl) ?_
          refine lv_iconst (v := 0) hx hb dX4_mend_79 (by decide) ?_
          refine lv_iconst (v := 2) hx hb dX4_mend_80 (by decide) ?_
          refine lv_iload hx hb dX4_mend_81 (lv_at hl 0 rfl) ?_
          refine lv_iload_n hx hb dX4_mend_83 rfl (lv_at hl 3 rfl) ?_
          refine lv_imul hx hb dX4_mend_84 ?_
          refine he_cv (wc := [(oX4 h0 q0 q1 mo), (aI g q0 24 (upd (mendF sd st me f j) (12 + j) (((mendF sd st me f j) (12 + j)) + (if (((mendF sd st me f j) 0) / (sd 18)) < (mdA st me (mendF sd st me f j) j) then ((mendF sd st me f j) 0) / (sd 18) else mdA st me (mendF sd st me f j) j))))]) (wr := [(oX6 p0 p1 p2 p3 p4 (nI w)), (aI g p1 24 sd), (aI g p3 6 st), (aI g p4 6 me)]) (va_runV (As := [.int 0, .int 2, .int ((if (((mendF sd st me f j) 0) / (sd 18)) < (mdA st me (mendF sd st me f j) j) then ((mendF sd st me f j) 0) / (sd 18) else mdA st me (mendF sd st me f j) j) * (sd 18))]) (rest := []) ⟨hx, hb, hml, hown, hts⟩ (c_X4_move l g h0 q0 q1 mo (upd (mendF sd st me f j) (12 + j) (((mendF sd st me f j) (12 + j)) + (if (((mendF sd st me f j) 0) / (sd 18)) < (mdA st me (mendF sd st me f j) j) then ((mendF sd st me f j) 0) / (sd 18) else mdA st me (mendF sd st me f j) j))) 0 2 ((if (((mendF sd st me f j) 0) / (sd 18)) < (mdA st me (mendF sd st me f j) j) then ((mendF sd st me f j) 0) / (sd 18) else mdA st me (mendF sd st me f j) j) * (sd 18)) (by first | assumption | decide | omega) (by first | assumption | decide | omega) H.size) (cwV 3 hts gX4_mend_X4_move rfl rfl rfl (by decide +kernel) ⟨Nat.le_of_ble_eq_true rfl, Nat.le_of_ble_eq_true rfl⟩) (he_preV (wc := [(oX4 h0 q0 q1 mo), (aI g q0 24 (upd (mendF sd st me f j) (12 + j) (((mendF sd st me f j) (12 + j)) + (if (((mendF sd st me f j) 0) / (sd 18)) < (mdA st me (mendF sd st me f j) j) then ((mendF sd st me f j) 0) / (sd 18) else mdA st me (mendF sd st me f j) j))))]) hK hP hD hS hA hE [0, 1] rfl rfl 0 rfl rfl) rfl rfl hl.1 rfl (lv_room (Nat.le_of_ble_eq_true rfl)) dX4_mend_85 ⟨(Nat.le_of_ble_eq_true rfl), (Nat.le_of_ble_eq_true rfl)⟩) hP hD hS hA [0, 1] [2, 3, 4, 5] rfl rfl rfl (by decide) (fun u_9 H locs h_10 hP hD hS => ?_)
          have hP : va_P g.1 vwCl [(oX6 p0 p1 p2 p3 p4 (nI w)), (aI g p1 24 sd), (aI g p3 6 st), (aI g p4 6 me), (oX4 h0 q0 q1 mo), (aI g q0 24 (mvF (upd (mendF sd st me f j) (12 + j) (((mendF sd st me f j) (12 + j)) + (if (((mendF sd st me f j) 0) / (sd 18)) < (mdA st me (mendF sd st me f j) j) then ((mendF sd st me f j) 0) / (sd 18) else mdA st me (mendF sd st me f j) j))) 0 2 ((if (((mendF sd st me f j) 0) / (sd 18)) < (mdA st me (mendF sd st me f j) j) then ((mendF sd st me f j) 0) / (sd 18) else mdA st me (mendF sd st me f j) j) * (sd 18))))] H := hP
          have hD : va_D A [(oX6 p0 p1 p2 p3 p4 (nI w)), (aI g p1 24 sd), (aI g p3 6 st), (aI g p4 6 me), (oX4 h0 q0 q1 mo), (aI g q0 24 (mvF (upd (mendF sd st me f j) (12 + j) (((mendF sd st me f j) (12 + j)) + (if (((mendF sd st me f j) 0) / (sd 18)) < (mdA st me (mendF sd st me f j) j) then ((mendF sd st me f j) 0) / (sd 18) else mdA st me (mendF sd st me f j) j))) 0 2 ((if (((mendF sd st me f j) 0) / (sd 18)) < (mdA st me (mendF sd st me f j) j) then ((mendF sd st me f j) 0) / (sd 18) else mdA st me (mendF sd st me f j) j) * (sd 18))))] := hD
          refine lv_iinc (v := nI (j + 1)) (lv' := [(3, .int (nI (j + 1))), (4, .int (if (((mendF sd st me f j) 0) / (sd 18)) < (mdA st me (mendF sd st me f j) j) then ((mendF sd st me f j) 0) / (sd 18) else mdA st me (mendF sd st me f j) j)), (0, .ref h0), (1, .ref p0), (2, .int (sd 18))]) hx hb dX4_mend_88 hl (k := 4) rfl (nI_1 j) (by decide) rfl (fun ls hl => ?_)
          refine lv_goto (tgt := 10) hx hb dX4_mend_91 (by decide) ?_
          have hP : va_P g.1 vwCl [(oX6 p0 p1 p2 p3 p4 (nI w)), (aI g p1 24 sd), (aI g p3 6 st), (aI g p4 6 me), (oX4 h0 q0 q1 mo), (aI g q0 24 (mendF sd st me f (j + 1)))] H := by rw [mendF_s, mendS, mdB_gt c_4]; exact hP
          have hD : va_D A [(oX6 p0 p1 p2 p3 p4 (nI w)), (aI g p1 24 sd), (aI g p3 6 st), (aI g p4 6 me), (oX4 h0 q0 q1 mo), (aI g q0 24 (mendF sd st me f (j + 1)))] := by rw [mendF_s, mendS, mdB_gt c_4]; exact hD
          exact ih10 (j + 1) (by omega) (by omega) _ _ _ (hP.sub [4, 5, 0, 1, 2, 3] rfl) (hD.sub [4, 5, 0, 1, 2, 3] (by decide) rfl) hS (lv_sub hl [2, 3, 4, 0] rfl)
  have hP : va_P g.1 vwCl [(oX4 h0 q0 q1 mo), (aI g q0 24 (mendF sd st me f 0)), (oX6 p0 p1 p2 p3 p4 (nI w)), (aI g p1 24 sd), (aI g p3 6 st), (aI g p4 6 me)] H := by rw [mendF]; exact hP
  have hD : va_D A [(oX4 h0 q0 q1 mo), (aI g q0 24 (mendF sd st me f 0)), (oX6 p0 p1 p2 p3 p4 (nI w)), (aI g p1 24 sd), (aI g p3 6 st), (aI g p4 6 me)] := by rw [mendF]; exact hD
  exact loop10 ((w - 0) + 1) 0 (Nat.lt_succ_self _) (Nat.zero_le _) _ _ _ hP hD hS (lv_sub hl [2, 3, 1, 0] rfl)
set_option maxHeartbeats 4000000 in
set_option maxRecDepth 100000 in
theorem c_X6_wanted (l : Launch) (g : he_G) (p0 : Nat) (p1 : Nat) (p2 : Nat) (p3 : Nat) (p4 : Nat) (w : Int32) (sd : Nat → Int32) (x : Int32) (k : Int32)  : he_I l yX6_wanted wsX6_wanted 0 0 0 0 g [.ref p0, .int x, .int k] [(oX6 p0 p1 p2 p3 p4 w), (aI g p1 24 sd)] (fun (r : Int32) (u : Unit) => r = wantF sd x k) (fun (u : Unit) => [(oX6 p0 p1 p2 p3 p4 w), (aI g p1 24 sd)]) := by
  refine he_begin (l := l) (g := g) (y := yX6_wanted) (wl := wsX6_wanted) (fr := 0) (lo := 0) (mc := 0) (ms := 0) (av := [.ref p0, .int x, .int k]) (ws := [(oX6 p0 p1 p2 p3 p4 w), (aI g p1 24 sd)]) (cc := cX6_wanted) (maxL := 3) (ret := (some .int)) (fun A => va_Qi (fun (r : Int32) (u : Unit) => r = wantF sd x k) (fun u t => he_post g A ((fun (u : Unit) => [(oX6 p0 p1 p2 p3 p4 w), (aI g p1 24 sd)]) u) t) A) (by decide) rfl (Nat.le_of_ble_eq_true rfl) ?_
  intro p e s m args below meth c A ls H locs Q hQ hB
  obtain ⟨hx, hb, hr, hml, hown, hts, hlk, hin, hP, hK, hD, hS, hA, hE, hl⟩ := hB
  have hl : lv_has ls 3 [(0, .ref p0), (1, .int x), (2, .int k)] := hl
  have f15 := hts (.fieldLink RX6 15 "HiredEnemy$Plan" "said" "[I") (iwoX6_wanted (k := 0) rfl)
  have inX6 : ∀ w ∈ wsX60, w ∈ wsX6_wanted := innX6_wanted_X6
  refine lv_aload_n hx hb dX6_wanted_0 rfl (lv_at hl 0 rfl) ?_
  refine va_get (v := .ref p1) (T := TX6) (N := 5) hx hb hts inX6 hown hK hP 0 rfl rfl 0 (by decide) f15 (fun _ h9 => h9) rfl dX6_wanted_1 ?_
  refine lv_bipush (v := 21) hx hb dX6_wanted_4 (by decide) ?_
  refine he_iald hx hb hK hP 1 rfl (21) (by decide) (by decide) (by first | decide | assumption) (sd 21) rfl dX6_wanted_6 ?_
  refine lv_aload_n hx hb dX6_wanted_7 rfl (lv_at hl 0 rfl) ?_
  refine va_get (v := .ref p1) (T := TX6) (N := 5) hx hb hts inX6 hown hK hP 0 rfl rfl 0 (by decide) f15 (fun _ h9 => h9) rfl dX6_wanted_8 ?_
  refine lv_bipush (v := 22) hx hb dX6_wanted_11 (by decide) ?_
  refine he_iald hx hb hK hP 1 rfl (22) (by decide) (by decide) (by first | decide | assumption) (sd 22) rfl dX6_wanted_13 ?_
  refine lv_iload_n hx hb dX6_wanted_14 rfl (lv_at hl 2 rfl) ?_
  refine lv_imul hx hb dX6_wanted_15 ?_
  refine lv_iadd hx hb dX6_wanted_16 ?_
  refine lv_aload_n hx hb dX6_wanted_17 rfl (lv_at hl 0 rfl) ?_
  refine va_get (v := .ref p1) (T := TX6) (N := 5) hx hb hts inX6 hown hK hP 0 rfl rfl 0 (by decide) f15 (fun _ h9 => h9) rfl dX6_wanted_18 ?_
  refine lv_bipush (v := 21) hx hb dX6_wanted_21 (by decide) ?_
  refine he_iald hx hb hK hP 1 rfl (21) (by decide) (by decide) (by first | decide | assumption) (sd 21) rfl dX6_wanted_23 ?_
  refine lv_bipush (v := 9) hx hb dX6_wanted_24 (by decide) ?_
  refine lv_iload_n hx hb dX6_wanted_26 rfl (lv_at hl 1 rfl) ?_
  refine lv_isub hx hb dX6_wanted_27 ?_
  refine lv_imul hx hb dX6_wanted_28 ?_
  refine lv_iadd hx hb dX6_wanted_29 ?_
  exact he_ri hQ hx hb hr hlk hP hD hS dX6_wanted_30 (Nat.le_of_ble_eq_true rfl) (Nat.le_of_ble_eq_true rfl) (()) (rfl) (rfl)
set_option maxHeartbeats 4000000 in
set_option maxRecDepth 100000 in
theorem c_X6_fearAt (l : Launch) (g : he_G) (p0 : Nat) (p1 : Nat) (p2 : Nat) (p3 : Nat) (p4 : Nat) (w : Int32) (fn : Nat → Int32) (x : Int32)  : he_I l yX6_fearAt wsX6_fearAt 1 22 0 0 g [.ref p0, .int x] [(oX6 p0 p1 p2 p3 p4 w), (aI g p2 10 fn)] (fun (r : Int32) (u : Unit) => r = faF fn x) (fun (u : Unit) => [(oX6 p0 p1 p2 p3 p4 w), (aI g p2 10 fn)]) := by
  refine he_begin (l := l) (g := g) (y := yX6_fearAt) (wl := wsX6_fearAt) (fr := 1) (lo := 22) (mc := 0) (ms := 0) (av := [.ref p0, .int x]) (ws := [(oX6 p0 p1 p2 p3 p4 w), (aI g p2 10 fn)]) (cc := cX6_fearAt) (maxL := 2) (ret := (some .int)) (fun A => va_Qi (fun (r : Int32) (u : Unit) => r = faF fn x) (fun u t => he_post g A ((fun (u : Unit) => [(oX6 p0 p1 p2 p3 p4 w), (aI g p2 10 fn)]) u) t) A) (by decide) rfl (Nat.le_of_ble_eq_true rfl) ?_
  intro p e s m args below meth c A ls H locs Q hQ hB
  obtain ⟨hx, hb, hr, hml, hown, hts, hlk, hin, hP, hK, hD, hS, hA, hE, hl⟩ := hB
  have hl : lv_has ls 2 [(0, .ref p0), (1, .int x)] := hl
  have nl39 := hE.nest (RX6, 39, yX10_within) (by decide +kernel)
  have iniX10 := hts (.initialized RX10) (iwoX6_fearAt (k := 2) rfl)
  have st_yX10_within := hts (.static yX10_within) (iwoX6_fearAt (k := 1) rfl)
  have f18 := hts (.fieldLink RX6 18 "HiredEnemy$Plan" "fearByNear" "[I") (iwoX6_fearAt (k := 0) rfl)
  have inX6 : ∀ w ∈ wsX60, w ∈ wsX6_fearAt := innX6_fearAt_X6
  refine lv_iload_n hx hb dX6_fearAt_0 rfl (lv_at hl 1 rfl) ?_
  refine lv_iconst (v := 0) hx hb dX6_fearAt_1 (by decide) ?_
  refine lv_bipush (v := 9) hx hb dX6_fearAt_2 (by decide) ?_
  refine he_ci (wc := []) (wr := [(oX6 p0 p1 p2 p3 p4 w), (aI g p2 10 fn)]) (va_runSN (As := [.int x, .int 0, .int 9]) (rest := []) ⟨hx, hb, hml, hown, hts⟩ (c_X10_within l g x 0 9 H.size) ⟨(va_cnB 3 hts gX6_fearAt_X10_within_n39 rfl rfl rfl nl39 iniX10 (by decide +kernel) ⟨Nat.le_of_ble_eq_true rfl, Nat.le_of_ble_eq_true rfl⟩), st_yX10_within, trivial⟩ (he_preS (wc := []) hK hP hD hS hA hE [] rfl rfl) rfl rfl hl.1 rfl (lv_room (Nat.le_of_ble_eq_true rfl)) dX6_fearAt_4 ⟨(Nat.le_of_ble_eq_true rfl), (Nat.le_of_ble_eq_true rfl)⟩) hP hD hS hA [] [0, 1] rfl rfl rfl (by decide) (fun r_1 u_2 H locs h_3 hP hD hS => ?_)
  subst h_3
  have hP : va_P g.1 vwCl [(oX6 p0 p1 p2 p3 p4 w), (aI g p2 10 fn)] H := hP
  have hD : va_D A [(oX6 p0 p1 p2 p3 p4 w), (aI g p2 10 fn)] := hD
  refine lv_if_eq (tgt := 19) hx hb dX6_fearAt_7 (by decide) (fun c_4 => ?_) (fun c_4 => ?_)
  · refine lv_iconst (v := 0) hx hb dX6_fearAt_19 (by decide) ?_
    exact he_ri hQ hx hb hr hlk hP hD hS dX6_fearAt_20 (Nat.le_of_ble_eq_true rfl) (Nat.le_of_ble_eq_true rfl) (()) (rfl) (by simp [faF, c_4])
  · refine lv_aload_n hx hb dX6_fearAt_10 rfl (lv_at hl 0 rfl) ?_
    refine va_get (v := .ref p2) (T := TX6) (N := 5) hx hb hts inX6 hown hK hP 0 rfl rfl 1 (by decide) f18 (fun _ h9 => h9) rfl dX6_fearAt_11 ?_
    refine lv_iload_n hx hb dX6_fearAt_14 rfl (lv_at hl 1 rfl) ?_
    refine he_iald hx hb hK hP 1 rfl (x.toNatClampNeg) (he_within_nat (B := 9) rfl (by decide) c_4).1 (Nat.lt_succ_of_le (he_within_nat (B := 9) rfl (by decide) c_4).2) (by first | decide | assumption) (fn x.toNatClampNeg) rfl dX6_fearAt_15 ?_
    refine lv_goto (tgt := 20) hx hb dX6_fearAt_16 (by decide) ?_
    exact he_ri hQ hx hb hr hlk hP hD hS dX6_fearAt_20 (Nat.le_of_ble_eq_true rfl) (Nat.le_of_ble_eq_true rfl) (()) (rfl) (by simp [faF, c_4])
set_option maxHeartbeats 4000000 in
set_option maxRecDepth 100000 in
theorem c_X5_wallDue (l : Launch) (g : he_G) (t0 : Nat) (t1 : Nat) (t2 : Nat) (pw : Int32) (wb : Nat → Int32) (x : Int32) (v : Int32)  : he_I l yX5_wallDue wsX5_wallDue 1 22 0 0 g [.ref t0, .int x, .int v] [(oX5 t0 t1 t2 pw), (aI g t2 36 wb)] (fun (r : Int32) (u : Unit) => r = wdF wb x v) (fun (u : Unit) => [(oX5 t0 t1 t2 pw), (aI g t2 36 wb)]) := by
  refine he_begin (l := l) (g := g) (y := yX5_wallDue) (wl := wsX5_wallDue) (fr := 1) (lo := 22) (mc := 0) (ms := 0) (av := [.ref t0, .int x, .int v]) (ws := [(oX5 t0 t1 t2 pw), (aI g t2 36 wb)]) (cc := cX5_wallDue) (maxL := 4) (ret := (some .int)) (fun A => va_Qi (fun (r : Int32) (u : Unit) => r = wdF wb x v) (fun u t => he_post g A ((fun (u : Unit) => [(oX5 t0 t1 t2 pw), (aI g t2 36 wb)]) u) t) A) (by decide) rfl (Nat.le_of_ble_eq_true rfl) ?_
  intro p e s m args below meth c A ls H locs Q hQ hB
  obtain ⟨hx, hb, hr, hml, hown, hts, hlk, hin, hP, hK, hD, hS, hA, hE, hl⟩ := hB
  have hl : lv_has ls 4 [(0, .ref t0), (1, .int x), (2, .int v)] := hl
  have nl37 := hE.nest (RX5, 37, yX10_within) (by decide +kernel)
  have iniX10 := hts (.initialized RX10) (iwoX5_wallDue (k := 2) rfl)
  have st_yX10_within := hts (.static yX10_within) (iwoX5_wallDue (k := 1) rfl)
  have f15 := hts (.fieldLink RX5 15 "HiredEnemy$Pact" "wallByMonth" "[I") (iwoX5_wallDue (k := 0) rfl)
  have inX5 : ∀ w ∈ wsX50, w ∈ wsX5_wallDue := innX5_wallDue_X5
  refine lv_iload_n hx hb dX5_wallDue_0 rfl (lv_at hl 1 rfl) ?_
  refine lv_iconst (v := 0) hx hb dX5_wallDue_1 (by decide) ?_
  refine lv_bipush (v := 35) hx hb dX5_wallDue_2 (by decide) ?_
  refine he_ci (wc := []) (wr := [(oX5 t0 t1 t2 pw), (aI g t2 36 wb)]) (va_runSN (As := [.int x, .int 0, .int 35]) (rest := []) ⟨hx, hb, hml, hown, hts⟩ (c_X10_within l g x 0 35 H.size) ⟨(va_cnB 3 hts gX5_wallDue_X10_within_n37 rfl rfl rfl nl37 iniX10 (by decide +kernel) ⟨Nat.le_of_ble_eq_true rfl, Nat.le_of_ble_eq_true rfl⟩), st_yX10_within, trivial⟩ (he_preS (wc := []) hK hP hD hS hA hE [] rfl rfl) rfl rfl hl.1 rfl (lv_room (Nat.le_of_ble_eq_true rfl)) dX5_wallDue_4 ⟨(Nat.le_of_ble_eq_true rfl), (Nat.le_of_ble_eq_true rfl)⟩) hP hD hS hA [] [0, 1] rfl rfl rfl (by decide) (fun r_1 u_2 H locs h_3 hP hD hS => ?_)
  subst h_3
  have hP : va_P g.1 vwCl [(oX5 t0 t1 t2 pw), (aI g t2 36 wb)] H := hP
  have hD : va_D A [(oX5 t0 t1 t2 pw), (aI g t2 36 wb)] := hD
  refine lv_if_eq (tgt := 19) hx hb dX5_wallDue_7 (by decide) (fun c_4 => ?_) (fun c_4 => ?_)
  · refine lv_iconst (v := (-1)) hx hb dX5_wallDue_19 (by decide) ?_
    refine lv_istore_n (lv' := [(3, .int (-1)), (0, .ref t0), (1, .int x), (2, .int v)]) hx hb dX5_wallDue_20 rfl hl (by decide) rfl (fun ls hl => ?_)
    refine lv_iload_n hx hb dX5_wallDue_21 rfl (lv_at hl 0 rfl) ?_
    refine lv_iload_n hx hb dX5_wallDue_22 rfl (lv_at hl 3 rfl) ?_
    refine lv_icmp_ge (tgt := 30) hx hb dX5_wallDue_23 (by decide) (fun c_5 => ?_) (fun c_5 => ?_)
    · refine lv_iconst (v := (-1)) hx hb dX5_wallDue_30 (by decide) ?_
      exact he_ri hQ hx hb hr hlk hP hD hS dX5_wallDue_31 (Nat.le_of_ble_eq_true rfl) (Nat.le_of_ble_eq_true rfl) (()) (rfl) (by simp [wdF, wdX, c_4, c_5])
    · refine lv_iload_n hx hb dX5_wallDue_26 rfl (lv_at hl 0 rfl) ?_
      refine lv_goto (tgt := 31) hx hb dX5_wallDue_27 (by decide) ?_
      exact he_ri hQ hx hb hr hlk hP hD hS dX5_wallDue_31 (Nat.le_of_ble_eq_true rfl) (Nat.le_of_ble_eq_true rfl) (()) (rfl) (by simp [wdF, wdX, c_4, c_5])
  · refine lv_aload_n hx hb dX5_wallDue_10 rfl (lv_at hl 0 rfl) ?_
    refine va_get (v := .ref t2) (T := TX5) (N := 3) hx hb hts inX5 hown hK hP 0 rfl rfl 1 (by decide) f15 (fun _ h9 => h9) rfl dX5_wallDue_11 ?_
    refine lv_iload_n hx hb dX5_wallDue_14 rfl (lv_at hl 1 rfl) ?_
    refine he_iald hx hb hK hP 1 rfl (x.toNatClampNeg) (he_within_nat (B := 35) rfl (by decide) c_4).1 (Nat.lt_succ_of_le (he_within_nat (B := 35) rfl (by decide) c_4).2) (by first | decide | assumption) (wb x.toNatClampNeg) rfl dX5_wallDue_15 ?_
    refine lv_goto (tgt := 20) hx hb dX5_wallDue_16 (by decide) ?_
    refine lv_istore_n (lv' := [(3, .int (wb x.toNatClampNeg)), (0, .ref t0), (1, .int x), (2, .int v)]) hx hb dX5_wallDue_20 rfl hl (by decide) rfl (fun ls hl => ?_)
    refine lv_iload_n hx hb dX5_wallDue_21 rfl (lv_at hl 0 rfl) ?_
    refine lv_iload_n hx hb dX5_wallDue_22 rfl (lv_at hl 3 rfl) ?_
    refine lv_icmp_ge (tgt := 30) hx hb dX5_wallDue_23 (by decide) (fun c_6 => ?_) (fun c_6 => ?_)
    · refine lv_iconst (v := (-1)) hx hb dX5_wallDue_30 (by decide) ?_
      exact he_ri hQ hx hb hr hlk hP hD hS dX5_wallDue_31 (Nat.le_of_ble_eq_true rfl) (Nat.le_of_ble_eq_true rfl) (()) (rfl) (by simp [wdF, wdX, c_4, c_6])
    · refine lv_iload_n hx hb dX5_wallDue_26 rfl (lv_at hl 0 rfl) ?_
      refine lv_goto (tgt := 31) hx hb dX5_wallDue_27 (by decide) ?_
      exact he_ri hQ hx hb hr hlk hP hD hS dX5_wallDue_31 (Nat.le_of_ble_eq_true rfl) (Nat.le_of_ble_eq_true rfl) (()) (rfl) (by simp [wdF, wdX, c_4, c_6])
set_option maxHeartbeats 4000000 in
set_option maxRecDepth 100000 in
theorem c_X5_winterPay (l : Launch) (g : he_G) (t0 : Nat) (t1 : Nat) (t2 : Nat) (pw : Int32) (pd : Nat → Int32)  : he_I l yX5_winterPay wsX5_winterPay 0 0 0 0 g [.ref t0] [(oX5 t0 t1 t2 pw), (aI g t1 6 pd)] (fun (r : Int32) (u : Unit) => r = wpF pd) (fun (u : Unit) => [(oX5 t0 t1 t2 pw), (aI g t1 6 pd)]) := by
  refine he_begin (l := l) (g := g) (y := yX5_winterPay) (wl := wsX5_winterPay) (fr := 0) (lo := 0) (mc := 0) (ms := 0) (av := [.ref t0]) (ws := [(oX5 t0 t1 t2 pw), (aI g t1 6 pd)]) (cc := cX5_winterPay) (maxL := 1) (ret := (some .int)) (fun A => va_Qi (fun (r : Int32) (u : Unit) => r = wpF pd) (fun u t => he_post g A ((fun (u : Unit) => [(oX5 t0 t1 t2 pw), (aI g t1 6 pd)]) u) t) A) (by decide) rfl (Nat.le_of_ble_eq_true rfl) ?_
  intro p e s m args below meth c A ls H locs Q hQ hB
  obtain ⟨hx, hb, hr, hml, hown, hts, hlk, hin, hP, hK, hD, hS, hA, hE, hl⟩ := hB
  have hl : lv_has ls 1 [(0, .ref t0)] := hl
  have f11 := hts (.fieldLink RX5 11 "HiredEnemy$Pact" "said" "[I") (iwoX5_winterPay (k := 0) rfl)
  have inX5 : ∀ w ∈ wsX50, w ∈ wsX5_winterPay := innX5_winterPay_X5
  refine lv_aload_n hx hb dX5_winterPay_0 rfl (lv_at hl 0 rfl) ?_
  refine va_get (v := .ref t1) (T := TX5) (N := 3) hx hb hts inX5 hown hK hP 0 rfl rfl 0 (by decide) f11 (fun _ h9 => h9) rfl dX5_winterPay_1 ?_
  refine lv_iconst (v := 1) hx hb dX5_winterPay_4 (by decide) ?_
  refine he_iald hx hb hK hP 1 rfl (1) (by decide) (by decide) (by first | decide | assumption) (pd 1) rfl dX5_winterPay_5 ?_
  refine lv_iconst (v := (-1)) hx hb dX5_winterPay_6 (by decide) ?_
  refine lv_icmp_ne (tgt := 19) hx hb dX5_winterPay_7 (by decide) (fun c_1 => ?_) (fun c_1 => ?_)
  · refine lv_aload_n hx hb dX5_winterPay_19 rfl (lv_at hl 0 rfl) ?_
    refine va_get (v := .ref t1) (T := TX5) (N := 3) hx hb hts inX5 hown hK hP 0 rfl rfl 0 (by decide) f11 (fun _ h9 => h9) rfl dX5_winterPay_20 ?_
    refine lv_iconst (v := 1) hx hb dX5_winterPay_23 (by decide) ?_
    refine he_iald hx hb hK hP 1 rfl (1) (by decide) (by decide) (by first | decide | assumption) (pd 1) rfl dX5_winterPay_24 ?_
    exact he_ri hQ hx hb hr hlk hP hD hS dX5_winterPay_25 (Nat.le_of_ble_eq_true rfl) (Nat.le_of_ble_eq_true rfl) (()) (rfl) (by simp [wpF, c_1])
  · refine lv_aload_n hx hb dX5_winterPay_10 rfl (lv_at hl 0 rfl) ?_
    refine va_get (v := .ref t1) (T := TX5) (N := 3) hx hb hts inX5 hown hK hP 0 rfl rfl 0 (by decide) f11 (fun _ h9 => h9) rfl dX5_winterPay_11 ?_
    refine lv_iconst (v := 0) hx hb dX5_winterPay_14 (by decide) ?_
    refine he_iald hx hb hK hP 1 rfl (0) (by decide) (by decide) (by first | decide | assumption) (pd 0) rfl dX5_winterPay_15 ?_
    refine lv_goto (tgt := 25) hx hb dX5_winterPay_16 (by decide) ?_
    exact he_ri hQ hx hb hr hlk hP hD hS dX5_winterPay_25 (Nat.le_of_ble_eq_true rfl) (Nat.le_of_ble_eq_true rfl) (()) (rfl) (by simp [wpF, c_1])
set_option maxHeartbeats 4000000 in
set_option maxRecDepth 100000 in
theorem c_X5_payIn (l : Launch) (g : he_G) (t0 : Nat) (t1 : Nat) (t2 : Nat) (pw : Int32) (pd : Nat → Int32) (mo : Int32)  : he_I l yX5_payIn wsX5_payIn 1 20 0 0 g [.ref t0, .int mo] [(oX5 t0 t1 t2 pw), (aI g t1 6 pd)] (fun (r : Int32) (u : Unit) => r = payF pd mo) (fun (u : Unit) => [(oX5 t0 t1 t2 pw), (aI g t1 6 pd)]) := by
  refine he_begin (l := l) (g := g) (y := yX5_payIn) (wl := wsX5_payIn) (fr := 1) (lo := 20) (mc := 0) (ms := 0) (av := [.ref t0, .int mo]) (ws := [(oX5 t0 t1 t2 pw), (aI g t1 6 pd)]) (cc := cX5_payIn) (maxL := 3) (ret := (some .int)) (fun A => va_Qi (fun (r : Int32) (u : Unit) => r = payF pd mo) (fun u t => he_post g A ((fun (u : Unit) => [(oX5 t0 t1 t2 pw), (aI g t1 6 pd)]) u) t) A) (by decide) rfl (Nat.le_of_ble_eq_true rfl) ?_
  intro p e s m args below meth c A ls H locs Q hQ hB
  obtain ⟨hx, hb, hr, hml, hown, hts, hlk, hin, hP, hK, hD, hS, hA, hE, hl⟩ := hB
  have hl : lv_has ls 3 [(0, .ref t0), (1, .int mo)] := hl
  have f11 := hts (.fieldLink RX5 11 "HiredEnemy$Pact" "said" "[I") (iwoX5_payIn (k := 0) rfl)
  have inX5 : ∀ w ∈ wsX50, w ∈ wsX5_payIn := innX5_payIn_X5
  refine lv_iload_n hx hb dX5_payIn_0 rfl (lv_at hl 1 rfl) ?_
  refine lv_bipush (v := 12) hx hb dX5_payIn_1 (by decide) ?_
  refine lv_irem hx hb dX5_payIn_3 (by decide) ?_
  refine lv_istore_n (lv' := [(2, .int (mo - mo / 12 * 12)), (0, .ref t0), (1, .int mo)]) hx hb dX5_payIn_4 rfl hl (by decide) rfl (fun ls hl => ?_)
  refine lv_iload_n hx hb dX5_payIn_5 rfl (lv_at hl 0 rfl) ?_
  refine lv_bipush (v := 10) hx hb dX5_payIn_6 (by decide) ?_
  refine lv_icmp_ge (tgt := 16) hx hb dX5_payIn_8 (by decide) (fun c_1 => ?_) (fun c_1 => ?_)
  · refine lv_aload_n hx hb dX5_payIn_16 rfl (lv_at hl 1 rfl) ?_
    refine he_ci (wc := [(oX5 t0 t1 t2 pw), (aI g t1 6 pd)]) (wr := []) (va_runV (As := []) (rest := []) ⟨hx, hb, hml, hown, hts⟩ (c_X5_winterPay l g t0 t1 t2 pw pd H.size) (cwV 0 hts gX5_payIn_X5_winterPay rfl rfl rfl (by decide +kernel) ⟨Nat.le_of_ble_eq_true rfl, Nat.le_of_ble_eq_true rfl⟩) (he_preV (wc := [(oX5 t0 t1 t2 pw), (aI g t1 6 pd)]) hK hP hD hS hA hE [0, 1] rfl rfl 0 rfl rfl) rfl rfl hl.1 rfl (lv_room (Nat.le_of_ble_eq_true rfl)) dX5_payIn_17 ⟨(Nat.le_of_ble_eq_true rfl), (Nat.le_of_ble_eq_true rfl)⟩) hP hD hS hA [0, 1] [] rfl rfl rfl (by decide) (fun r_2 u_3 H locs h_4 hP hD hS => ?_)
    subst h_4
    have hP : va_P g.1 vwCl [(oX5 t0 t1 t2 pw), (aI g t1 6 pd)] H := hP
    have hD : va_D A [(oX5 t0 t1 t2 pw), (aI g t1 6 pd)] := hD
    refine lv_goto (tgt := 29) hx hb dX5_payIn_20 (by decide) ?_
    exact he_ri hQ hx hb hr hlk hP hD hS dX5_payIn_29 (Nat.le_of_ble_eq_true rfl) (Nat.le_of_ble_eq_true rfl) (()) (rfl) (by simp [payF, c_1])
  · refine lv_iload_n hx hb dX5_payIn_11 rfl (lv_at hl 0 rfl) ?_
    refine lv_iconst (v := 1) hx hb dX5_payIn_12 (by decide) ?_
    refine lv_icmp_gt (tgt := 23) hx hb dX5_payIn_13 (by decide) (fun c_5 => ?_) (fun c_5 => ?_)
    · refine lv_aload_n hx hb dX5_payIn_23 rfl (lv_at hl 1 rfl) ?_
      refine va_get (v := .ref t1) (T := TX5) (N := 3) hx hb hts inX5 hown hK hP 0 rfl rfl 0 (by decide) f11 (fun _ h9 => h9) rfl dX5_payIn_24 ?_
      refine lv_iconst (v := 0) hx hb dX5_payIn_27 (by decide) ?_
      refine he_iald hx hb hK hP 1 rfl (0) (by decide) (by decide) (by first | decide | assumption) (pd 0) rfl dX5_payIn_28 ?_
      exact he_ri hQ hx hb hr hlk hP hD hS dX5_payIn_29 (Nat.le_of_ble_eq_true rfl) (Nat.le_of_ble_eq_true rfl) (()) (rfl) (by simp [payF, c_1, c_5])
    · refine lv_aload_n hx hb dX5_payIn_16 rfl (lv_at hl 1 rfl) ?_
      refine he_ci (wc := [(oX5 t0 t1 t2 pw), (aI g t1 6 pd)]) (wr := []) (va_runV (As := []) (rest := []) ⟨hx, hb, hml, hown, hts⟩ (c_X5_winterPay l g t0 t1 t2 pw pd H.size) (cwV 0 hts gX5_payIn_X5_winterPay rfl rfl rfl (by decide +kernel) ⟨Nat.le_of_ble_eq_true rfl, Nat.le_of_ble_eq_true rfl⟩) (he_preV (wc := [(oX5 t0 t1 t2 pw), (aI g t1 6 pd)]) hK hP hD hS hA hE [0, 1] rfl rfl 0 rfl rfl) rfl rfl hl.1 rfl (lv_room (Nat.le_of_ble_eq_true rfl)) dX5_payIn_17 ⟨(Nat.le_of_ble_eq_true rfl), (Nat.le_of_ble_eq_true rfl)⟩) hP hD hS hA [0, 1] [] rfl rfl rfl (by decide) (fun r_6 u_7 H locs h_8 hP hD hS => ?_)
      subst h_8
      have hP : va_P g.1 vwCl [(oX5 t0 t1 t2 pw), (aI g t1 6 pd)] H := hP
      have hD : va_D A [(oX5 t0 t1 t2 pw), (aI g t1 6 pd)] := hD
      refine lv_goto (tgt := 29) hx hb dX5_payIn_20 (by decide) ?_
      exact he_ri hQ hx hb hr hlk hP hD hS dX5_payIn_29 (Nat.le_of_ble_eq_true rfl) (Nat.le_of_ble_eq_true rfl) (()) (rfl) (by simp [payF, c_1, c_5])
set_option maxHeartbeats 4000000 in
set_option maxRecDepth 100000 in
theorem c_X5_clear (l : Launch) (g : he_G) (t0 : Nat) (t1 : Nat) (t2 : Nat) (pw : Int32) (pd : Nat → Int32) (wb : Nat → Int32) (x : Int32)  : he_V l yX5_clear wsX5_clear 1 23 0 0 g [.ref t0, .int x] [(oX5 t0 t1 t2 pw), (aI g t1 6 pd), (aI g t2 36 wb)] (fun (u : Unit) => True) (fun (u : Unit) => [(oX5 t0 t1 t2 x), (aI g t1 6 (clP pd)), (aI g t2 36 (flF (fun _ => -1) wb 36))]) := by
  refine he_begin (l := l) (g := g) (y := yX5_clear) (wl := wsX5_clear) (fr := 1) (lo := 23) (mc := 0) (ms := 0) (av := [.ref t0, .int x]) (ws := [(oX5 t0 t1 t2 pw), (aI g t1 6 pd), (aI g t2 36 wb)]) (cc := cX5_clear) (maxL := 2) (ret := none) (fun A => va_Qv (fun (u : Unit) => True) (fun u t => he_post g A ((fun (u : Unit) => [(oX5 t0 t1 t2 x), (aI g t1 6 (clP pd)), (aI g t2 36 (flF (fun _ => -1) wb 36))]) u) t) A) (by decide) rfl (Nat.le_of_ble_eq_true rfl) ?_
  intro p e s m args below meth c A ls H locs Q hQ hB
  obtain ⟨hx, hb, hr, hml, hown, hts, hlk, hin, hP, hK, hD, hS, hA, hE, hl⟩ := hB
  have hl : lv_has ls 2 [(0, .ref t0), (1, .int x)] := hl
  have f18 := hts (.fieldLink RX5 18 "HiredEnemy$Pact" "walls" "I") (iwoX5_clear (k := 0) rfl)
  have inX5 : ∀ w ∈ wsX50, w ∈ wsX5_clear := innX5_clear_X5
  have f11 := hts (.fieldLink RX5 11 "HiredEnemy$Pact" "said" "[I") (iwoX5_clear (k := 1) rfl)
  have f15 := hts (.fieldLink RX5 15 "HiredEnemy$Pact" "wallByMonth" "[I") (iwoX5_clear (k := 2) rfl)
  refine lv_aload_n hx hb dX5_clear_0 rfl (lv_at hl 0 rfl) ?_
  refine lv_iload_n hx hb dX5_clear_1 rfl (lv_at hl 1 rfl) ?_
  refine va_put (v := .int x) (ty := .int) (T := TX5) (N := 3) hx hb hts inX5 tyX5 tyX5_ok nmX5 hown hK hP hD hS 0 rfl rfl 2 (by decide) f18 (fun _ h9 => h9) rfl (by decide +kernel) rfl rfl (Nat.le_of_ble_eq_true rfl) dX5_clear_2 (fun H locs hP hD hS => ?_)
  have hP : va_P g.1 vwCl [(oX5 t0 t1 t2 x), (aI g t1 6 pd), (aI g t2 36 wb)] H := hP
  have hD : va_D A [(oX5 t0 t1 t2 x), (aI g t1 6 pd), (aI g t2 36 wb)] := hD
  refine lv_aload_n hx hb dX5_clear_5 rfl (lv_at hl 0 rfl) ?_
  refine va_get (v := .ref t1) (T := TX5) (N := 3) hx hb hts inX5 hown hK hP 0 rfl rfl 0 (by decide) f11 (fun _ h9 => h9) rfl dX5_clear_6 ?_
  refine lv_iconst (v := 0) hx hb dX5_clear_9 (by decide) ?_
  refine lv_iconst (v := 0) hx hb dX5_clear_10 (by decide) ?_
  refine he_iast hx hb hK hP hD hS 1 rfl (0) (by decide) (by decide) (by first | decide | assumption) dX5_clear_11 (fun H locs hP hD hS => ?_)
  have hP : va_P g.1 vwCl [(oX5 t0 t1 t2 x), (aI g t1 6 (upd pd 0 0)), (aI g t2 36 wb)] H := hP
  have hD : va_D A [(oX5 t0 t1 t2 x), (aI g t1 6 (upd pd 0 0)), (aI g t2 36 wb)] := hD
  refine lv_aload_n hx hb dX5_clear_12 rfl (lv_at hl 0 rfl) ?_
  refine va_get (v := .ref t1) (T := TX5) (N := 3) hx hb hts inX5 hown hK hP 0 rfl rfl 0 (by decide) f11 (fun _ h9 => h9) rfl dX5_clear_13 ?_
  refine lv_iconst (v := 1) hx hb dX5_clear_16 (by decide) ?_
  refine lv_iconst (v := (-1)) hx hb dX5_clear_17 (by decide) ?_
  refine he_iast hx hb hK hP hD hS 1 rfl (1) (by decide) (by decide) (by first | decide | assumption) dX5_clear_18 (fun H locs hP hD hS => ?_)
  have hP : va_P g.1 vwCl [(oX5 t0 t1 t2 x), (aI g t1 6 (upd (upd pd 0 0) 1 (-1))), (aI g t2 36 wb)] H := hP
  have hD : va_D A [(oX5 t0 t1 t2 x), (aI g t1 6 (upd (upd pd 0 0) 1 (-1))), (aI g t2 36 wb)] := hD
  refine lv_aload_n hx hb dX5_clear_19 rfl (lv_at hl 0 rfl) ?_
  refine va_get (v := .ref t1) (T := TX5) (N := 3) hx hb hts inX5 hown hK hP 0 rfl rfl 0 (by decide) f11 (fun _ h9 => h9) rfl dX5_clear_20 ?_
  refine lv_iconst (v := 2) hx hb dX5_clear_23 (by decide) ?_
  refine lv_bipush (v := 9) hx hb dX5_clear_24 (by decide) ?_
  refine he_iast hx hb hK hP hD hS 1 rfl (2) (by decide) (by decide) (by first | decide | assumption) dX5_clear_26 (fun H locs hP hD hS => ?_)
  have hP : va_P g.1 vwCl [(oX5 t0 t1 t2 x), (aI g t1 6 (upd (upd (upd pd 0 0) 1 (-1)) 2 9)), (aI g t2 36 wb)] H := hP
  have hD : va_D A [(oX5 t0 t1 t2 x), (aI g t1 6 (upd (upd (upd pd 0 0) 1 (-1)) 2 9)), (aI g t2 36 wb)] := hD
  refine lv_aload_n hx hb dX5_clear_27 rfl (lv_at hl 0 rfl) ?_
  refine va_get (v := .ref t1) (T := TX5) (N := 3) hx hb hts inX5 hown hK hP 0 rfl rfl 0 (by decide) f11 (fun _ h9 => h9) rfl dX5_clear_28 ?_
  refine lv_iconst (v := 3) hx hb dX5_clear_31 (by decide) ?_
  refine lv_iconst (v := 0) hx hb dX5_clear_32 (by decide) ?_
  refine he_iast hx hb hK hP hD hS 1 rfl (3) (by decide) (by decide) (by first | decide | assumption) dX5_clear_33 (fun H locs hP hD hS => ?_)
  have hP : va_P g.1 vwCl [(oX5 t0 t1 t2 x), (aI g t1 6 (upd (upd (upd (upd pd 0 0) 1 (-1)) 2 9) 3 0)), (aI g t2 36 wb)] H := hP
  have hD : va_D A [(oX5 t0 t1 t2 x), (aI g t1 6 (upd (upd (upd (upd pd 0 0) 1 (-1)) 2 9) 3 0)), (aI g t2 36 wb)] := hD
  refine lv_aload_n hx hb dX5_clear_34 rfl (lv_at hl 0 rfl) ?_
  refine va_get (v := .ref t1) (T := TX5) (N := 3) hx hb hts inX5 hown hK hP 0 rfl rfl 0 (by decide) f11 (fun _ h9 => h9) rfl dX5_clear_35 ?_
  refine lv_iconst (v := 4) hx hb dX5_clear_38 (by decide) ?_
  refine lv_iconst (v := 0) hx hb dX5_clear_39 (by decide) ?_
  refine he_iast hx hb hK hP hD hS 1 rfl (4) (by decide) (by decide) (by first | decide | assumption) dX5_clear_40 (fun H locs hP hD hS => ?_)
  have hP : va_P g.1 vwCl [(oX5 t0 t1 t2 x), (aI g t1 6 (upd (upd (upd (upd (upd pd 0 0) 1 (-1)) 2 9) 3 0) 4 0)), (aI g t2 36 wb)] H := hP
  have hD : va_D A [(oX5 t0 t1 t2 x), (aI g t1 6 (upd (upd (upd (upd (upd pd 0 0) 1 (-1)) 2 9) 3 0) 4 0)), (aI g t2 36 wb)] := hD
  refine lv_aload_n hx hb dX5_clear_41 rfl (lv_at hl 0 rfl) ?_
  refine va_get (v := .ref t1) (T := TX5) (N := 3) hx hb hts inX5 hown hK hP 0 rfl rfl 0 (by decide) f11 (fun _ h9 => h9) rfl dX5_clear_42 ?_
  refine lv_iconst (v := 5) hx hb dX5_clear_45 (by decide) ?_
  refine lv_bipush (v := 36) hx hb dX5_clear_46 (by decide) ?_
  refine he_iast hx hb hK hP hD hS 1 rfl (5) (by decide) (by decide) (by first | decide | assumption) dX5_clear_48 (fun H locs hP hD hS => ?_)
  have hP : va_P g.1 vwCl [(oX5 t0 t1 t2 x), (aI g t1 6 (upd (upd (upd (upd (upd (upd pd 0 0) 1 (-1)) 2 9) 3 0) 4 0) 5 36)), (aI g t2 36 wb)] H := hP
  have hD : va_D A [(oX5 t0 t1 t2 x), (aI g t1 6 (upd (upd (upd (upd (upd (upd pd 0 0) 1 (-1)) 2 9) 3 0) 4 0) 5 36)), (aI g t2 36 wb)] := hD
  refine lv_aload_n hx hb dX5_clear_49 rfl (lv_at hl 0 rfl) ?_
  refine va_get (v := .ref t2) (T := TX5) (N := 3) hx hb hts inX5 hown hK hP 0 rfl rfl 1 (by decide) f15 (fun _ h9 => h9) rfl dX5_clear_50 ?_
  refine lv_iconst (v := (-1)) hx hb dX5_clear_53 (by decide) ?_
  refine he_cv (wc := [(aI g t2 36 wb)]) (wr := [(oX5 t0 t1 t2 x), (aI g t1 6 (upd (upd (upd (upd (upd (upd pd 0 0) 1 (-1)) 2 9) 3 0) 4 0) 5 36))]) (va_runS (As := [.ref t2, .int (-1)]) (rest := []) ⟨hx, hb, hml, hown, hts⟩ (c_J7_fill_53178 l g t2 36 wb (-1) (by first | assumption | decide | omega) H.size) (va_cwS 2 hts gX5_clear_J7_fill_53178 rfl rfl rfl (by decide +kernel) ⟨Nat.le_of_ble_eq_true rfl, Nat.le_of_ble_eq_true rfl⟩) (he_preS (wc := [(aI g t2 36 wb)]) hK hP hD hS hA hE [2] rfl rfl) rfl rfl hl.1 rfl (lv_room (Nat.le_of_ble_eq_true rfl)) dX5_clear_54 ⟨(Nat.le_of_ble_eq_true rfl), (Nat.le_of_ble_eq_true rfl)⟩) hP hD hS hA [2] [0, 1] rfl rfl rfl (by decide) (fun u_2 H locs h_3 hP hD hS => ?_)
  have hP : va_P g.1 vwCl [(oX5 t0 t1 t2 x), (aI g t1 6 (upd (upd (upd (upd (upd (upd pd 0 0) 1 (-1)) 2 9) 3 0) 4 0) 5 36)), (aI g t2 36 (flF (fun _ => (-1)) wb 36))] H := hP
  have hD : va_D A [(oX5 t0 t1 t2 x), (aI g t1 6 (upd (upd (upd (upd (upd (upd pd 0 0) 1 (-1)) 2 9) 3 0) 4 0) 5 36)), (aI g t2 36 (flF (fun _ => (-1)) wb 36))] := hD
  exact he_rv hQ hx hb hr hlk hP hD hS dX5_clear_57 (Nat.le_of_ble_eq_true rfl) (Nat.le_of_ble_eq_true rfl) (()) (rfl) (trivial)
set_option maxHeartbeats 4000000 in
set_option maxRecDepth 100000 in
theorem c_X5_propose (l : Launch) (g : he_G) (t0 : Nat) (t1 : Nat) (t2 : Nat) (pw : Int32) (pd : Nat → Int32) (wb : Nat → Int32) (a : Int32) (b : Int32) (d : Int32) (k : Int32)  : he_V l yX5_propose wsX5_propose 2 44 0 0 g [.ref t0, .int a, .int b, .int d, .int k] [(oX5 t0 t1 t2 pw), (aI g t1 6 pd), (aI g t2 36 wb)] (fun (u : Unit) => True) (fun (u : Unit) => [(oX5 t0 t1 t2 0), (aI g t1 6 (prP pd a b d k)), (aI g t2 36 (flF (fun _ => -1) wb 36))]) := by
  refine he_begin (l := l) (g := g) (y := yX5_propose) (wl := wsX5_propose) (fr := 2) (lo := 44) (mc := 0) (ms := 0) (av := [.ref t0, .int a, .int b, .int d, .int k]) (ws := [(oX5 t0 t1 t2 pw), (aI g t1 6 pd), (aI g t2 36 wb)]) (cc := cX5_propose) (maxL := 5) (ret := none) (fun A => va_Qv (fun (u : Unit) => True) (fun u t => he_post g A ((fun (u : Unit) => [(oX5 t0 t1 t2 0), (aI g t1 6 (prP pd a b d k)), (aI g t2 36 (flF (fun _ => -1) wb 36))]) u) t) A) (by decide) rfl (Nat.le_of_ble_eq_true rfl) ?_
  intro p e s m args below meth c A ls H locs Q hQ hB
  obtain ⟨hx, hb, hr, hml, hown, hts, hlk, hin, hP, hK, hD, hS, hA, hE, hl⟩ := hB
  have hl : lv_has ls 5 [(0, .ref t0), (1, .int a), (2, .int b), (3, .int d), (4, .int k)] := hl
  have f11 := hts (.fieldLink RX5 11 "HiredEnemy$Pact" "said" "[I") (iwoX5_propose (k := 0) rfl)
  have inX5 : ∀ w ∈ wsX50, w ∈ wsX5_propose := innX5_propose_X5
  refine lv_aload_n hx hb dX5_propose_0 rfl (lv_at hl 0 rfl) ?_
  refine lv_iconst (v := 0) hx hb dX5_propose_1 (by decide) ?_
  refine he_cv (wc := [(oX5 t0 t1 t2 pw), (aI g t1 6 pd), (aI g t2 36 wb)]) (wr := []) (va_runV (As := [.int 0]) (rest := []) ⟨hx, hb, hml, hown, hts⟩ (c_X5_clear l g t0 t1 t2 pw pd wb 0 H.size) (cwV 1 hts gX5_propose_X5_clear rfl rfl rfl (by decide +kernel) ⟨Nat.le_of_ble_eq_true rfl, Nat.le_of_ble_eq_true rfl⟩) (he_preV (wc := [(oX5 t0 t1 t2 pw), (aI g t1 6 pd), (aI g t2 36 wb)]) hK hP hD hS hA hE [0, 1, 2] rfl rfl 0 rfl rfl) rfl rfl hl.1 rfl (lv_room (Nat.le_of_ble_eq_true rfl)) dX5_propose_2 ⟨(Nat.le_of_ble_eq_true rfl), (Nat.le_of_ble_eq_true rfl)⟩) hP hD hS hA [0, 1, 2] [] rfl rfl rfl (by decide) (fun u_2 H locs h_3 hP hD hS => ?_)
  have hP : va_P g.1 vwCl [(oX5 t0 t1 t2 0), (aI g t1 6 (clP pd)), (aI g t2 36 (flF (fun _ => -1) wb 36))] H := hP
  have hD : va_D A [(oX5 t0 t1 t2 0), (aI g t1 6 (clP pd)), (aI g t2 36 (flF (fun _ => -1) wb 36))] := hD
  refine lv_aload_n hx hb dX5_propose_5 rfl (lv_at hl 0 rfl) ?_
  refine va_get (v := .ref t1) (T := TX5) (N := 3) hx hb hts inX5 hown hK hP 0 rfl rfl 0 (by decide) f11 (fun _ h9 => h9) rfl dX5_propose_6 ?_
  refine lv_iconst (v := 0) hx hb dX5_propose_9 (by decide) ?_
  refine lv_iload_n hx hb dX5_propose_10 rfl (lv_at hl 1 rfl) ?_
  refine he_iast hx hb hK hP hD hS 1 rfl (0) (by decide) (by decide) (by first | decide | assumption) dX5_propose_11 (fun H locs hP hD hS => ?_)
  have hP : va_P g.1 vwCl [(oX5 t0 t1 t2 0), (aI g t1 6 (upd (clP pd) 0 a)), (aI g t2 36 (flF (fun _ => -1) wb 36))] H := hP
  have hD : va_D A [(oX5 t0 t1 t2 0), (aI g t1 6 (upd (clP pd) 0 a)), (aI g t2 36 (flF (fun _ => -1) wb 36))] := hD
  refine lv_aload_n hx hb dX5_propose_12 rfl (lv_at hl 0 rfl) ?_
  refine va_get (v := .ref t1) (T := TX5) (N := 3) hx hb hts inX5 hown hK hP 0 rfl rfl 0 (by decide) f11 (fun _ h9 => h9) rfl dX5_propose_13 ?_
  refine lv_iconst (v := 2) hx hb dX5_propose_16 (by decide) ?_
  refine lv_iload_n hx hb dX5_propose_17 rfl (lv_at hl 2 rfl) ?_
  refine he_iast hx hb hK hP hD hS 1 rfl (2) (by decide) (by decide) (by first | decide | assumption) dX5_propose_18 (fun H locs hP hD hS => ?_)
  have hP : va_P g.1 vwCl [(oX5 t0 t1 t2 0), (aI g t1 6 (upd (upd (clP pd) 0 a) 2 b)), (aI g t2 36 (flF (fun _ => -1) wb 36))] H := hP
  have hD : va_D A [(oX5 t0 t1 t2 0), (aI g t1 6 (upd (upd (clP pd) 0 a) 2 b)), (aI g t2 36 (flF (fun _ => -1) wb 36))] := hD
  refine lv_aload_n hx hb dX5_propose_19 rfl (lv_at hl 0 rfl) ?_
  refine va_get (v := .ref t1) (T := TX5) (N := 3) hx hb hts inX5 hown hK hP 0 rfl rfl 0 (by decide) f11 (fun _ h9 => h9) rfl dX5_propose_20 ?_
  refine lv_iconst (v := 3) hx hb dX5_propose_23 (by decide) ?_
  refine lv_iload_n hx hb dX5_propose_24 rfl (lv_at hl 3 rfl) ?_
  refine he_iast hx hb hK hP hD hS 1 rfl (3) (by decide) (by decide) (by first | decide | assumption) dX5_propose_25 (fun H locs hP hD hS => ?_)
  have hP : va_P g.1 vwCl [(oX5 t0 t1 t2 0), (aI g t1 6 (upd (upd (upd (clP pd) 0 a) 2 b) 3 d)), (aI g t2 36 (flF (fun _ => -1) wb 36))] H := hP
  have hD : va_D A [(oX5 t0 t1 t2 0), (aI g t1 6 (upd (upd (upd (clP pd) 0 a) 2 b) 3 d)), (aI g t2 36 (flF (fun _ => -1) wb 36))] := hD
  refine lv_aload_n hx hb dX5_propose_26 rfl (lv_at hl 0 rfl) ?_
  refine va_get (v := .ref t1) (T := TX5) (N := 3) hx hb hts inX5 hown hK hP 0 rfl rfl 0 (by decide) f11 (fun _ h9 => h9) rfl dX5_propose_27 ?_
  refine lv_iconst (v := 5) hx hb dX5_propose_30 (by decide) ?_
  refine lv_iload hx hb dX5_propose_31 (lv_at hl 4 rfl) ?_
  refine he_iast hx hb hK hP hD hS 1 rfl (5) (by decide) (by decide) (by first | decide | assumption) dX5_propose_33 (fun H locs hP hD hS => ?_)
  have hP : va_P g.1 vwCl [(oX5 t0 t1 t2 0), (aI g t1 6 (upd (upd (upd (upd (clP pd) 0 a) 2 b) 3 d) 5 k)), (aI g t2 36 (flF (fun _ => -1) wb 36))] H := hP
  have hD : va_D A [(oX5 t0 t1 t2 0), (aI g t1 6 (upd (upd (upd (upd (clP pd) 0 a) 2 b) 3 d) 5 k)), (aI g t2 36 (flF (fun _ => -1) wb 36))] := hD
  exact he_rv hQ hx hb hr hlk hP hD hS dX5_propose_34 (Nat.le_of_ble_eq_true rfl) (Nat.le_of_ble_eq_true rfl) (()) (rfl) (trivial)
end
