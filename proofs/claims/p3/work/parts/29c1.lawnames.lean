theorem tbX10_told : ∀ w ∈ wsX10_told, w ∈ lw_tbl := tb_cons (List.mem_of_getElem? (i := 726) (by decide +kernel)) (tb_app tboX10_told (tb_app tbn_9 (tb_app tbn_6 (tb_app tbn_2 (tb_app tbn_1 (tb_app tbX10_within tbX10_demand))))))
set_option maxRecDepth 20000 in
theorem tboL_told : ∀ w ∈ woL_told, w ∈ lw_tbl := lw_mem (big := lw_tbl) woL_told [454, 723, 724, 725, 79, 95] (by decide +kernel)
theorem tbL_told : ∀ w ∈ wsL_told, w ∈ lw_tbl := tb_cons (List.mem_of_getElem? (i := 722) (by decide +kernel)) (tb_app tboL_told (tb_app tbn_9 (tb_app tbn_6 (tb_app tbn_2 (tb_app tbn_1 tbX10_told)))))
set_option maxRecDepth 20000 in
theorem tboX11_told : ∀ w ∈ woX11_told, w ∈ lw_tbl := lw_mem (big := lw_tbl) woX11_told [1131, 1142, 1145, 1150, 1249, 1250, 91, 1252, 1254, 39] (by decide +kernel)
theorem tbX11_told : ∀ w ∈ wsX11_told, w ∈ lw_tbl := tb_cons (List.mem_of_getElem? (i := 1322) (by decide +kernel)) (tb_app tboX11_told (tb_app tbn_10 (tb_app tbX11_in tbX11_bad)))
set_option maxRecDepth 20000 in
theorem tboX10_demandWall : ∀ w ∈ woX10_demandWall, w ∈ lw_tbl := lw_mem (big := lw_tbl) woX10_demandWall [739, 101, 334, 168, 343, 446, 425, 79] (by decide +kernel)
set_option maxRecDepth 20000 in
theorem tbn_12 : ∀ w ∈ (vx_atS RX10 262 "java/lang/IndexOutOfBoundsException" ["java/lang/RuntimeException", "java/lang/Exception"]).filter goodWord, w ∈ lw_tbl := by decide +kernel
theorem tbX10_demandWall : ∀ w ∈ wsX10_demandWall, w ∈ lw_tbl := tb_cons (List.mem_of_getElem? (i := 738) (by decide +kernel)) (tb_app tboX10_demandWall (tb_app tbn_9 (tb_app tbn_1 (tb_app tbn_12 tbX10_within))))
set_option maxRecDepth 20000 in
theorem tboX10_wall : ∀ w ∈ woX10_wall, w ∈ lw_tbl := lw_mem (big := lw_tbl) woX10_wall [334, 161, 338, 265, 196, 163, 735, 737, 13, 79, 101, 446, 425, 459, 461, 3, 95] (by decide +kernel)
theorem tbX10_wall : ∀ w ∈ wsX10_wall, w ∈ lw_tbl := tb_cons (List.mem_of_getElem? (i := 734) (by decide +kernel)) (tb_app tboX10_wall (tb_app tbn_9 (tb_app tbn_1 (tb_app tbn_6 (tb_app tbn_2 (tb_app tbX10_demandWall (tb_app tbX10_within tbX10_demand)))))))
set_option maxRecDepth 20000 in
theorem tboL_wall : ∀ w ∈ woL_wall, w ∈ lw_tbl := lw_mem (big := lw_tbl) woL_wall [730, 454, 731, 732, 733, 79, 101, 95] (by decide +kernel)
theorem tbL_wall : ∀ w ∈ wsL_wall, w ∈ lw_tbl := tb_cons (List.mem_of_getElem? (i := 729) (by decide +kernel)) (tb_app tboL_wall (tb_app tbn_9 (tb_app tbn_1 (tb_app tbn_6 (tb_app tbn_2 tbX10_wall)))))
set_option maxRecDepth 20000 in
theorem tboX11_isWall : ∀ w ∈ woX11_isWall, w ∈ lw_tbl := lw_mem (big := lw_tbl) woX11_isWall [1142, 1249, 1250, 91] (by decide +kernel)
theorem tbX11_isWall : ∀ w ∈ wsX11_isWall, w ∈ lw_tbl := tb_cons (List.mem_of_getElem? (i := 1330) (by decide +kernel)) (tb_app tboX11_isWall (tb_app tbn_10 tbX11_in))
set_option maxRecDepth 20000 in
theorem tboX11_wall : ∀ w ∈ woX11_wall, w ∈ lw_tbl := lw_mem (big := lw_tbl) woX11_wall [1131, 1144, 1150, 1327, 1329, 52, 91, 1249, 1250, 1252, 1254, 39] (by decide +kernel)
theorem tbX11_wall : ∀ w ∈ wsX11_wall, w ∈ lw_tbl := tb_cons (List.mem_of_getElem? (i := 1326) (by decide +kernel)) (tb_app tboX11_wall (tb_app tbn_10 (tb_app tbX11_isWall (tb_app tbX11_bad tbX11_in))))
set_option maxRecDepth 20000 in
theorem tboX10_demandContract : ∀ w ∈ woX10_demandContract, w ∈ lw_tbl := lw_mem (big := lw_tbl) woX10_demandContract [767, 102, 337, 343, 446, 425, 79] (by decide +kernel)
set_option maxRecDepth 20000 in
theorem tbn_13 : ∀ w ∈ (nz_at RX10 267).filter goodWord, w ∈ lw_tbl := by decide +kernel
theorem tbX10_demandContract : ∀ w ∈ wsX10_demandContract, w ∈ lw_tbl := tb_cons (List.mem_of_getElem? (i := 766) (by decide +kernel)) (tb_app tboX10_demandContract (tb_app tbn_9 (tb_app tbn_13 tbX10_within)))
set_option maxRecDepth 20000 in
theorem tboX5_breachesTold : ∀ w ∈ woX5_breachesTold, w ∈ lw_tbl := lw_mem (big := lw_tbl) woX5_breachesTold [315] (by decide +kernel)
theorem tbX5_breachesTold : ∀ w ∈ wsX5_breachesTold, w ∈ lw_tbl := tb_cons (List.mem_of_getElem? (i := 790) (by decide +kernel)) (tb_app tboX5_breachesTold tbn_8)
set_option maxRecDepth 20000 in
theorem tboX5_winterPay : ∀ w ∈ woX5_winterPay, w ∈ lw_tbl := lw_mem (big := lw_tbl) woX5_winterPay [313] (by decide +kernel)
theorem tbX5_winterPay : ∀ w ∈ wsX5_winterPay, w ∈ lw_tbl := tb_cons (List.mem_of_getElem? (i := 794) (by decide +kernel)) (tb_app tboX5_winterPay tbn_8)
set_option maxRecDepth 20000 in
theorem tboX5_answer : ∀ w ∈ woX5_answer, w ∈ lw_tbl := lw_mem (big := lw_tbl) woX5_answer [313, 787, 789, 15, 89, 791, 793, 16] (by decide +kernel)
theorem tbX5_answer : ∀ w ∈ wsX5_answer, w ∈ lw_tbl := tb_cons (List.mem_of_getElem? (i := 786) (by decide +kernel)) (tb_app tboX5_answer (tb_app tbn_8 (tb_app tbX5_breachesTold tbX5_winterPay)))
set_option maxRecDepth 20000 in
theorem tboX10_rule : ∀ w ∈ woX10_rule, w ∈ lw_tbl := lw_mem (big := lw_tbl) woX10_rule [336, 763, 765, 14, 79, 102, 446, 425, 459, 461, 3, 95, 783, 784, 785, 89] (by decide +kernel)
theorem tbX10_rule : ∀ w ∈ wsX10_rule, w ∈ lw_tbl := tb_cons (List.mem_of_getElem? (i := 762) (by decide +kernel)) (tb_app tboX10_rule (tb_app tbn_9 (tb_app tbn_8 (tb_app tbX10_demandContract (tb_app tbX10_within (tb_app tbX10_demand tbX5_answer))))))
set_option maxRecDepth 20000 in
theorem tboL_rule : ∀ w ∈ woL_rule, w ∈ lw_tbl := lw_mem (big := lw_tbl) woL_rule [758, 454, 759, 760, 761, 79, 102, 95, 89] (by decide +kernel)
theorem tbL_rule : ∀ w ∈ wsL_rule, w ∈ lw_tbl := tb_cons (List.mem_of_getElem? (i := 757) (by decide +kernel)) (tb_app tboL_rule (tb_app tbn_9 (tb_app tbn_8 tbX10_rule)))
set_option maxRecDepth 20000 in
theorem tboX11_isContract : ∀ w ∈ woX11_isContract, w ∈ lw_tbl := lw_mem (big := lw_tbl) woX11_isContract [1145, 1249, 1250, 91] (by decide +kernel)
theorem tbX11_isContract : ∀ w ∈ wsX11_isContract, w ∈ lw_tbl := tb_cons (List.mem_of_getElem? (i := 1338) (by decide +kernel)) (tb_app tboX11_isContract (tb_app tbn_10 tbX11_in))
set_option maxRecDepth 20000 in
theorem tboX11_rule : ∀ w ∈ woX11_rule, w ∈ lw_tbl := lw_mem (big := lw_tbl) woX11_rule [1131, 1148, 1335, 1337, 53, 91, 1249, 1250, 1252, 1254, 39] (by decide +kernel)
theorem tbX11_rule : ∀ w ∈ wsX11_rule, w ∈ lw_tbl := tb_cons (List.mem_of_getElem? (i := 1334) (by decide +kernel)) (tb_app tboX11_rule (tb_app tbn_10 (tb_app tbX11_isContract (tb_app tbX11_bad tbX11_in))))
set_option maxRecDepth 20000 in
theorem tboX6_wanted : ∀ w ∈ woX6_wanted, w ∈ lw_tbl := lw_mem (big := lw_tbl) woX6_wanted [155] (by decide +kernel)
theorem tbX6_wanted : ∀ w ∈ wsX6_wanted, w ∈ lw_tbl := tb_cons (List.mem_of_getElem? (i := 805) (by decide +kernel)) (tb_app tboX6_wanted tbn_1)
set_option maxRecDepth 20000 in
theorem tboX10_wants : ∀ w ∈ woX10_wants, w ∈ lw_tbl := lw_mem (big := lw_tbl) woX10_wants [334, 446, 425, 79, 459, 461, 3, 95, 802, 803, 804, 82] (by decide +kernel)
theorem tbX10_wants : ∀ w ∈ wsX10_wants, w ∈ lw_tbl := tb_cons (List.mem_of_getElem? (i := 801) (by decide +kernel)) (tb_app tboX10_wants (tb_app tbn_9 (tb_app tbn_1 (tb_app tbX10_within (tb_app tbX10_demand tbX6_wanted)))))
set_option maxRecDepth 20000 in
theorem tboL_wants : ∀ w ∈ woL_wants, w ∈ lw_tbl := lw_mem (big := lw_tbl) woL_wants [454, 798, 799, 800, 79, 95, 82] (by decide +kernel)
theorem tbL_wants : ∀ w ∈ wsL_wants, w ∈ lw_tbl := tb_cons (List.mem_of_getElem? (i := 797) (by decide +kernel)) (tb_app tboL_wants (tb_app tbn_9 (tb_app tbn_1 tbX10_wants)))
set_option maxRecDepth 20000 in
theorem tboX11_wantsFor : ∀ w ∈ woX11_wantsFor, w ∈ lw_tbl := lw_mem (big := lw_tbl) woX11_wantsFor [1142] (by decide +kernel)
theorem tbX11_wantsFor : ∀ w ∈ wsX11_wantsFor, w ∈ lw_tbl := tb_cons (List.mem_of_getElem? (i := 1346) (by decide +kernel)) (tb_app tboX11_wantsFor tbn_10)
set_option maxRecDepth 20000 in
theorem tboX11_wants : ∀ w ∈ woX11_wants, w ∈ lw_tbl := lw_mem (big := lw_tbl) woX11_wants [1131, 1249, 1250, 91, 1252, 1254, 39, 1343, 1345, 54] (by decide +kernel)
theorem tbX11_wants : ∀ w ∈ wsX11_wants, w ∈ lw_tbl := tb_cons (List.mem_of_getElem? (i := 1342) (by decide +kernel)) (tb_app tboX11_wants (tb_app tbn_10 (tb_app tbX11_in (tb_app tbX11_bad tbX11_wantsFor))))
set_option maxRecDepth 20000 in
theorem tboX10_demandContractOrNone : ∀ w ∈ woX10_demandContractOrNone, w ∈ lw_tbl := lw_mem (big := lw_tbl) woX10_demandContractOrNone [763, 765, 14, 79, 102] (by decide +kernel)
theorem tbX10_demandContractOrNone : ∀ w ∈ wsX10_demandContractOrNone, w ∈ lw_tbl := tb_cons (List.mem_of_getElem? (i := 816) (by decide +kernel)) (tb_app tboX10_demandContractOrNone (tb_app tbn_9 tbX10_demandContract))
set_option maxRecDepth 20000 in
theorem tboX4_pledge : ∀ w ∈ woX4_pledge, w ∈ lw_tbl := lw_mem (big := lw_tbl) woX4_pledge [194, 200] (by decide +kernel)
theorem tbX4_pledge : ∀ w ∈ wsX4_pledge, w ∈ lw_tbl := tb_cons (List.mem_of_getElem? (i := 820) (by decide +kernel)) (tb_app tboX4_pledge tbn_2)
set_option maxRecDepth 20000 in
theorem tboX10_sign : ∀ w ∈ woX10_sign, w ∈ lw_tbl := lw_mem (big := lw_tbl) woX10_sign [338, 265, 196, 813, 815, 17, 79, 102, 817, 818, 819, 84] (by decide +kernel)
theorem tbX10_sign : ∀ w ∈ wsX10_sign, w ∈ lw_tbl := tb_cons (List.mem_of_getElem? (i := 812) (by decide +kernel)) (tb_app tboX10_sign (tb_app tbn_9 (tb_app tbn_6 (tb_app tbn_2 (tb_app tbX10_demandContractOrNone tbX4_pledge)))))
set_option maxRecDepth 20000 in
theorem tboL_sign : ∀ w ∈ woL_sign, w ∈ lw_tbl := lw_mem (big := lw_tbl) woL_sign [758, 809, 810, 811, 79, 102, 84] (by decide +kernel)
theorem tbL_sign : ∀ w ∈ wsL_sign, w ∈ lw_tbl := tb_cons (List.mem_of_getElem? (i := 808) (by decide +kernel)) (tb_app tboL_sign (tb_app tbn_9 (tb_app tbn_6 (tb_app tbn_2 tbX10_sign))))
set_option maxRecDepth 20000 in
theorem tboX11_signs : ∀ w ∈ woX11_signs, w ∈ lw_tbl := lw_mem (big := lw_tbl) woX11_signs [1150] (by decide +kernel)
theorem tbX11_signs : ∀ w ∈ wsX11_signs, w ∈ lw_tbl := tb_cons (List.mem_of_getElem? (i := 1354) (by decide +kernel)) (tb_app tboX11_signs tbn_10)
set_option maxRecDepth 20000 in
theorem tboX11_sign : ∀ w ∈ woX11_sign, w ∈ lw_tbl := lw_mem (big := lw_tbl) woX11_sign [1131, 1150, 1335, 1337, 53, 91, 1252, 1254, 39, 1351, 1353, 55] (by decide +kernel)
theorem tbX11_sign : ∀ w ∈ wsX11_sign, w ∈ lw_tbl := tb_cons (List.mem_of_getElem? (i := 1350) (by decide +kernel)) (tb_app tboX11_sign (tb_app tbn_10 (tb_app tbX11_isContract (tb_app tbX11_bad tbX11_signs))))
set_option maxRecDepth 20000 in
theorem tboX0_keep : ∀ w ∈ woX0_keep, w ∈ lw_tbl := lw_mem (big := lw_tbl) woX0_keep [199, 195, 216, 427, 419, 418, 103, 425, 79] (by decide +kernel)
theorem tbX0_keep : ∀ w ∈ wsX0_keep, w ∈ lw_tbl := tb_cons (List.mem_of_getElem? (i := 831) (by decide +kernel)) (tb_app tboX0_keep (tb_app tbn_2 (tb_app tbn_3 tbX10_within)))
set_option maxRecDepth 20000 in
theorem tboX10_inForce : ∀ w ∈ woX10_inForce, w ∈ lw_tbl := lw_mem (big := lw_tbl) woX10_inForce [196, 336, 446, 425, 79] (by decide +kernel)
theorem tbX10_inForce : ∀ w ∈ wsX10_inForce, w ∈ lw_tbl := tb_cons (List.mem_of_getElem? (i := 835) (by decide +kernel)) (tb_app tboX10_inForce (tb_app tbn_2 (tb_app tbn_9 tbX10_within)))
set_option maxRecDepth 20000 in
theorem tboX4_move : ∀ w ∈ woX4_move, w ∈ lw_tbl := lw_mem (big := lw_tbl) woX4_move [194, 844, 536, 96, 537] (by decide +kernel)
theorem tbX4_move : ∀ w ∈ wsX4_move, w ∈ lw_tbl := tb_cons (List.mem_of_getElem? (i := 843) (by decide +kernel)) (tb_app tboX4_move tbn_2)
set_option maxRecDepth 20000 in
theorem tboX5_payIn : ∀ w ∈ woX5_payIn, w ∈ lw_tbl := lw_mem (big := lw_tbl) woX5_payIn [313, 791, 793, 16, 89] (by decide +kernel)
theorem tbX5_payIn : ∀ w ∈ wsX5_payIn, w ∈ lw_tbl := tb_cons (List.mem_of_getElem? (i := 852) (by decide +kernel)) (tb_app tboX5_payIn (tb_app tbn_8 tbX5_winterPay))
set_option maxRecDepth 20000 in
theorem tboX4_isPaid : ∀ w ∈ woX4_isPaid, w ∈ lw_tbl := lw_mem (big := lw_tbl) woX4_isPaid [200, 194, 849, 850, 851, 89, 840, 842, 19, 84, 536, 96] (by decide +kernel)
theorem tbX4_isPaid : ∀ w ∈ wsX4_isPaid, w ∈ lw_tbl := tb_cons (List.mem_of_getElem? (i := 848) (by decide +kernel)) (tb_app tboX4_isPaid (tb_app tbn_2 (tb_app tbn_8 (tb_app tbX5_payIn tbX4_move))))
set_option maxRecDepth 20000 in
theorem tboX5_wallDue : ∀ w ∈ woX5_wallDue, w ∈ lw_tbl := lw_mem (big := lw_tbl) woX5_wallDue [315, 425, 79] (by decide +kernel)
theorem tbX5_wallDue : ∀ w ∈ wsX5_wallDue, w ∈ lw_tbl := tb_cons (List.mem_of_getElem? (i := 860) (by decide +kernel)) (tb_app tboX5_wallDue (tb_app tbn_8 tbX10_within))
set_option maxRecDepth 20000 in
theorem tboX4_weakest : ∀ w ∈ woX4_weakest, w ∈ lw_tbl := lw_mem (big := lw_tbl) woX4_weakest [194] (by decide +kernel)
theorem tbX4_weakest : ∀ w ∈ wsX4_weakest, w ∈ lw_tbl := tb_cons (List.mem_of_getElem? (i := 864) (by decide +kernel)) (tb_app tboX4_weakest tbn_2)
set_option maxRecDepth 20000 in
theorem tboX4_frighten : ∀ w ∈ woX4_frighten, w ∈ lw_tbl := lw_mem (big := lw_tbl) woX4_frighten [194, 844, 536, 96, 537] (by decide +kernel)
theorem tbX4_frighten : ∀ w ∈ wsX4_frighten, w ∈ lw_tbl := tb_cons (List.mem_of_getElem? (i := 872) (by decide +kernel)) (tb_app tboX4_frighten tbn_2)
set_option maxRecDepth 20000 in
theorem tboX4_breach : ∀ w ∈ woX4_breach, w ∈ lw_tbl := lw_mem (big := lw_tbl) woX4_breach [194, 160, 156, 314, 869, 871, 24, 84, 536, 96, 840, 842, 19] (by decide +kernel)
theorem tbX4_breach : ∀ w ∈ wsX4_breach, w ∈ lw_tbl := tb_cons (List.mem_of_getElem? (i := 868) (by decide +kernel)) (tb_app tboX4_breach (tb_app tbn_2 (tb_app tbn_1 (tb_app tbn_8 (tb_app tbX4_frighten tbX4_move)))))
set_option maxRecDepth 20000 in
theorem tboX4_shoot : ∀ w ∈ woX4_shoot, w ∈ lw_tbl := lw_mem (big := lw_tbl) woX4_shoot [200, 194, 167, 314, 197, 857, 858, 859, 89, 79, 861, 863, 22, 84, 865, 867, 23, 536, 96] (by decide +kernel)
theorem tbX4_shoot : ∀ w ∈ wsX4_shoot, w ∈ lw_tbl := tb_cons (List.mem_of_getElem? (i := 856) (by decide +kernel)) (tb_app tboX4_shoot (tb_app tbn_2 (tb_app tbn_1 (tb_app tbn_8 (tb_app tbX5_wallDue (tb_app tbX4_weakest tbX4_breach))))))
set_option maxRecDepth 20000 in
theorem tboX6_fearAt : ∀ w ∈ woX6_fearAt, w ∈ lw_tbl := lw_mem (big := lw_tbl) woX6_fearAt [157, 425, 79] (by decide +kernel)
theorem tbX6_fearAt : ∀ w ∈ wsX6_fearAt, w ∈ lw_tbl := tb_cons (List.mem_of_getElem? (i := 876) (by decide +kernel)) (tb_app tboX6_fearAt (tb_app tbn_1 tbX10_within))
set_option maxRecDepth 20000 in
theorem tboX4_mend : ∀ w ∈ woX4_mend, w ∈ lw_tbl := lw_mem (big := lw_tbl) woX4_mend [156, 167, 164, 160, 194, 844, 536, 96, 840, 842, 19, 84] (by decide +kernel)
theorem tbX4_mend : ∀ w ∈ wsX4_mend, w ∈ lw_tbl := tb_cons (List.mem_of_getElem? (i := 881) (by decide +kernel)) (tb_app tboX4_mend (tb_app tbn_1 (tb_app tbn_2 tbX4_move)))
set_option maxRecDepth 20000 in
theorem tboX4_desert : ∀ w ∈ woX4_desert, w ∈ lw_tbl := lw_mem (big := lw_tbl) woX4_desert [194, 886, 887, 96, 888] (by decide +kernel)
theorem tbX4_desert : ∀ w ∈ wsX4_desert, w ∈ lw_tbl := tb_cons (List.mem_of_getElem? (i := 885) (by decide +kernel)) (tb_app tboX4_desert tbn_2)
set_option maxRecDepth 20000 in
theorem tboX4_pass : ∀ w ∈ woX4_pass, w ∈ lw_tbl := lw_mem (big := lw_tbl) woX4_pass [197, 194, 156, 314, 877, 403, 96, 404, 200, 328, 329, 90, 840, 842, 19, 84, 536, 845, 847, 20, 89, 853, 855, 21, 79, 869, 871, 24, 873, 874, 875, 82, 878, 880, 25, 882, 884, 26, 887] (by decide +kernel)
theorem tbX4_pass : ∀ w ∈ wsX4_pass, w ∈ lw_tbl := tb_cons (List.mem_of_getElem? (i := 839) (by decide +kernel)) (tb_app tboX4_pass (tb_app tbn_2 (tb_app tbn_1 (tb_app tbn_8 (tb_app tbJ7_fill_53178 (tb_app tbX4_move (tb_app tbX4_isPaid (tb_app tbX4_shoot (tb_app tbX6_fearAt (tb_app tbX4_frighten (tb_app tbX4_mend tbX4_desert)))))))))))
set_option maxRecDepth 20000 in
theorem tboX0_lead : ∀ w ∈ woX0_lead, w ∈ lw_tbl := lw_mem (big := lw_tbl) woX0_lead [199, 198, 216, 427, 419, 418, 103, 425, 79] (by decide +kernel)
theorem tbX0_lead : ∀ w ∈ wsX0_lead, w ∈ lw_tbl := tb_cons (List.mem_of_getElem? (i := 892) (by decide +kernel)) (tb_app tboX0_lead (tb_app tbn_2 (tb_app tbn_3 tbX10_within)))
set_option maxRecDepth 20000 in
theorem tboX10_months : ∀ w ∈ woX10_months, w ∈ lw_tbl := lw_mem (big := lw_tbl) woX10_months [338, 265, 202, 267, 334, 446, 425, 79, 459, 461, 3, 95, 828, 829, 830, 85, 419, 418, 103, 832, 834, 18, 836, 837, 838, 84, 403, 96, 90, 536, 89, 82, 887, 889, 890, 891] (by decide +kernel)
theorem tbX10_months : ∀ w ∈ wsX10_months, w ∈ lw_tbl := tb_cons (List.mem_of_getElem? (i := 827) (by decide +kernel)) (tb_app tboX10_months (tb_app tbn_9 (tb_app tbn_6 (tb_app tbn_2 (tb_app tbn_3 (tb_app tbn_1 (tb_app tbn_8 (tb_app tbX10_within (tb_app tbX10_demand (tb_app tbX0_keep (tb_app tbX10_inForce (tb_app tbX4_pass tbX0_lead))))))))))))
set_option maxRecDepth 20000 in
theorem tboL_months : ∀ w ∈ woL_months, w ∈ lw_tbl := lw_mem (big := lw_tbl) woL_months [454, 824, 825, 826, 79, 95, 85, 419, 418, 103, 84, 403, 96, 90, 536, 89, 82, 887] (by decide +kernel)
theorem tbL_months : ∀ w ∈ wsL_months, w ∈ lw_tbl := tb_cons (List.mem_of_getElem? (i := 823) (by decide +kernel)) (tb_app tboL_months (tb_app tbn_9 (tb_app tbn_6 (tb_app tbn_2 (tb_app tbn_3 (tb_app tbn_1 (tb_app tbn_8 tbX10_months)))))))
theorem tbX11_less : ∀ w ∈ wsX11_less, w ∈ lw_tbl := tb_cons (List.mem_of_getElem? (i := 1369) (by decide +kernel)) tb_nil
set_option maxRecDepth 20000 in
theorem tboX11_pays : ∀ w ∈ woX11_pays, w ∈ lw_tbl := lw_mem (big := lw_tbl) woX11_pays [1150, 1367, 1368, 91] (by decide +kernel)
theorem tbX11_pays : ∀ w ∈ wsX11_pays, w ∈ lw_tbl := tb_cons (List.mem_of_getElem? (i := 1366) (by decide +kernel)) (tb_app tboX11_pays (tb_app tbn_10 tbX11_less))
set_option maxRecDepth 20000 in
theorem tboX11_weakest : ∀ w ∈ woX11_weakest, w ∈ lw_tbl := lw_mem (big := lw_tbl) woX11_weakest [1142, 1150] (by decide +kernel)
theorem tbX11_weakest : ∀ w ∈ wsX11_weakest, w ∈ lw_tbl := tb_cons (List.mem_of_getElem? (i := 1381) (by decide +kernel)) (tb_app tboX11_weakest tbn_10)
set_option maxRecDepth 20000 in
theorem tboX11_fears : ∀ w ∈ woX11_fears, w ∈ lw_tbl := lw_mem (big := lw_tbl) woX11_fears [1150, 1367, 1368, 91] (by decide +kernel)
theorem tbX11_fears : ∀ w ∈ wsX11_fears, w ∈ lw_tbl := tb_cons (List.mem_of_getElem? (i := 1385) (by decide +kernel)) (tb_app tboX11_fears (tb_app tbn_10 tbX11_less))
set_option maxRecDepth 20000 in
theorem tboX11_shoots : ∀ w ∈ woX11_shoots, w ∈ lw_tbl := lw_mem (big := lw_tbl) woX11_shoots [1150, 1142, 1154, 1153, 1144, 1378, 1380, 60, 91, 1382, 1384, 61, 1363, 1365, 57] (by decide +kernel)
theorem tbX11_shoots : ∀ w ∈ wsX11_shoots, w ∈ lw_tbl := tb_cons (List.mem_of_getElem? (i := 1377) (by decide +kernel)) (tb_app tboX11_shoots (tb_app tbn_10 (tb_app tbX11_weakest (tb_app tbX11_fears tbX11_pays))))
set_option maxRecDepth 20000 in
theorem tboX11_underContract : ∀ w ∈ woX11_underContract, w ∈ lw_tbl := lw_mem (big := lw_tbl) woX11_underContract [1148, 1150, 1149, 1351, 1353, 55, 91, 1363, 1365, 57, 1374, 1376, 59] (by decide +kernel)
theorem tbX11_underContract : ∀ w ∈ wsX11_underContract, w ∈ lw_tbl := tb_cons (List.mem_of_getElem? (i := 1373) (by decide +kernel)) (tb_app tboX11_underContract (tb_app tbn_10 (tb_app tbX11_signs (tb_app tbX11_pays tbX11_shoots))))
set_option maxRecDepth 20000 in
theorem tboX11_mends : ∀ w ∈ woX11_mends, w ∈ lw_tbl := lw_mem (big := lw_tbl) woX11_mends [1142, 1144, 1150, 1367, 1368, 91, 1363, 1365, 57] (by decide +kernel)
theorem tbX11_mends : ∀ w ∈ wsX11_mends, w ∈ lw_tbl := tb_cons (List.mem_of_getElem? (i := 1389) (by decide +kernel)) (tb_app tboX11_mends (tb_app tbn_10 (tb_app tbX11_less tbX11_pays)))
set_option maxRecDepth 20000 in
theorem tboX11_deserts : ∀ w ∈ woX11_deserts, w ∈ lw_tbl := lw_mem (big := lw_tbl) woX11_deserts [1142, 1150] (by decide +kernel)
theorem tbX11_deserts : ∀ w ∈ wsX11_deserts, w ∈ lw_tbl := tb_cons (List.mem_of_getElem? (i := 1393) (by decide +kernel)) (tb_app tboX11_deserts tbn_10)
set_option maxRecDepth 20000 in
theorem tboX11_monthGoes : ∀ w ∈ woX11_monthGoes, w ∈ lw_tbl := lw_mem (big := lw_tbl) woX11_monthGoes [1150, 1142, 1148, 1363, 1365, 57, 91, 1370, 1372, 58, 1351, 1353, 55, 1386, 1388, 62, 1390, 1392, 63] (by decide +kernel)
theorem tbX11_monthGoes : ∀ w ∈ wsX11_monthGoes, w ∈ lw_tbl := tb_cons (List.mem_of_getElem? (i := 1362) (by decide +kernel)) (tb_app tboX11_monthGoes (tb_app tbn_10 (tb_app tbX11_pays (tb_app tbX11_underContract (tb_app tbX11_mends (tb_app tbX11_deserts tbX11_signs))))))
set_option maxRecDepth 20000 in
theorem tboX11_months : ∀ w ∈ woX11_months, w ∈ lw_tbl := lw_mem (big := lw_tbl) woX11_months [1131, 1154, 1150, 1152, 1153, 1249, 1250, 91, 1252, 1254, 39, 1359, 1361, 56] (by decide +kernel)
theorem tbX11_months : ∀ w ∈ wsX11_months, w ∈ lw_tbl := tb_cons (List.mem_of_getElem? (i := 1358) (by decide +kernel)) (tb_app tboX11_months (tb_app tbn_10 (tb_app tbX11_in (tb_app tbX11_bad tbX11_monthGoes))))
set_option maxRecDepth 20000 in
theorem tboX0_giveBack : ∀ w ∈ woX0_giveBack, w ∈ lw_tbl := lw_mem (big := lw_tbl) woX0_giveBack [216, 195, 427, 419, 418, 103, 199, 425, 79] (by decide +kernel)
theorem tbX0_giveBack : ∀ w ∈ wsX0_giveBack, w ∈ lw_tbl := tb_cons (List.mem_of_getElem? (i := 904) (by decide +kernel)) (tb_app tboX0_giveBack (tb_app tbn_3 (tb_app tbn_2 tbX10_within)))
set_option maxRecDepth 20000 in
theorem tboX10_undo : ∀ w ∈ woX10_undo, w ∈ lw_tbl := lw_mem (big := lw_tbl) woX10_undo [338, 265, 202, 900, 536, 96, 537, 267, 446, 425, 79, 459, 461, 3, 95, 901, 902, 903, 85, 419, 418, 103] (by decide +kernel)
theorem tbX10_undo : ∀ w ∈ wsX10_undo, w ∈ lw_tbl := tb_cons (List.mem_of_getElem? (i := 899) (by decide +kernel)) (tb_app tboX10_undo (tb_app tbn_9 (tb_app tbn_6 (tb_app tbn_2 (tb_app tbn_3 (tb_app tbX10_within (tb_app tbX10_demand tbX0_giveBack)))))))
set_option maxRecDepth 20000 in
theorem tboL_undo : ∀ w ∈ woL_undo, w ∈ lw_tbl := lw_mem (big := lw_tbl) woL_undo [454, 896, 897, 898, 79, 536, 96, 95, 85, 419, 418, 103] (by decide +kernel)
theorem tbL_undo : ∀ w ∈ wsL_undo, w ∈ lw_tbl := tb_cons (List.mem_of_getElem? (i := 895) (by decide +kernel)) (tb_app tboL_undo (tb_app tbn_9 (tb_app tbn_6 (tb_app tbn_2 (tb_app tbn_3 tbX10_undo)))))
set_option maxRecDepth 20000 in
theorem tboX11_undo : ∀ w ∈ woX11_undo, w ∈ lw_tbl := lw_mem (big := lw_tbl) woX11_undo [1131, 1150, 1152, 1249, 1250, 91, 1252, 1254, 39, 1367, 1368] (by decide +kernel)
theorem tbX11_undo : ∀ w ∈ wsX11_undo, w ∈ lw_tbl := tb_cons (List.mem_of_getElem? (i := 1397) (by decide +kernel)) (tb_app tboX11_undo (tb_app tbn_10 (tb_app tbX11_in (tb_app tbX11_bad tbX11_less))))
set_option maxRecDepth 20000 in
theorem tboX10_sums : ∀ w ∈ woX10_sums, w ∈ lw_tbl := lw_mem (big := lw_tbl) woX10_sums [338, 265, 196, 446, 425, 79, 459, 461, 3, 95] (by decide +kernel)
theorem tbX10_sums : ∀ w ∈ wsX10_sums, w ∈ lw_tbl := tb_cons (List.mem_of_getElem? (i := 911) (by decide +kernel)) (tb_app tboX10_sums (tb_app tbn_9 (tb_app tbn_6 (tb_app tbn_2 (tb_app tbX10_within tbX10_demand)))))
set_option maxRecDepth 20000 in
theorem tboL_sums : ∀ w ∈ woL_sums, w ∈ lw_tbl := lw_mem (big := lw_tbl) woL_sums [454, 908, 909, 910, 79, 95] (by decide +kernel)
theorem tbL_sums : ∀ w ∈ wsL_sums, w ∈ lw_tbl := tb_cons (List.mem_of_getElem? (i := 907) (by decide +kernel)) (tb_app tboL_sums (tb_app tbn_9 (tb_app tbn_6 (tb_app tbn_2 tbX10_sums))))
set_option maxRecDepth 20000 in
theorem tboX11_sums : ∀ w ∈ woX11_sums, w ∈ lw_tbl := lw_mem (big := lw_tbl) woX11_sums [1131, 1150, 1249, 1250, 91, 1252, 1254, 39] (by decide +kernel)
theorem tbX11_sums : ∀ w ∈ wsX11_sums, w ∈ lw_tbl := tb_cons (List.mem_of_getElem? (i := 1401) (by decide +kernel)) (tb_app tboX11_sums (tb_app tbn_10 (tb_app tbX11_in tbX11_bad)))
set_option maxRecDepth 20000 in
theorem tboX0_shotAt : ∀ w ∈ woX0_shotAt, w ∈ lw_tbl := lw_mem (big := lw_tbl) woX0_shotAt [216] (by decide +kernel)
theorem tbX0_shotAt : ∀ w ∈ wsX0_shotAt, w ∈ lw_tbl := tb_cons (List.mem_of_getElem? (i := 922) (by decide +kernel)) (tb_app tboX0_shotAt tbn_3)
set_option maxRecDepth 20000 in
theorem tboX10_corks : ∀ w ∈ woX10_corks, w ∈ lw_tbl := lw_mem (big := lw_tbl) woX10_corks [338, 265, 202, 267, 735, 737, 13, 79, 101, 446, 425, 459, 461, 3, 95, 919, 920, 921, 85] (by decide +kernel)
theorem tbX10_corks : ∀ w ∈ wsX10_corks, w ∈ lw_tbl := tb_cons (List.mem_of_getElem? (i := 918) (by decide +kernel)) (tb_app tboX10_corks (tb_app tbn_9 (tb_app tbn_6 (tb_app tbn_2 (tb_app tbn_1 (tb_app tbn_3 (tb_app tbX10_demandWall (tb_app tbX10_within (tb_app tbX10_demand tbX0_shotAt)))))))))
set_option maxRecDepth 20000 in
theorem tboL_corks : ∀ w ∈ woL_corks, w ∈ lw_tbl := lw_mem (big := lw_tbl) woL_corks [730, 454, 915, 916, 917, 79, 101, 95, 85] (by decide +kernel)
theorem tbL_corks : ∀ w ∈ wsL_corks, w ∈ lw_tbl := tb_cons (List.mem_of_getElem? (i := 914) (by decide +kernel)) (tb_app tboL_corks (tb_app tbn_9 (tb_app tbn_6 (tb_app tbn_2 (tb_app tbn_1 (tb_app tbn_3 tbX10_corks))))))
set_option maxRecDepth 20000 in
theorem tboX11_corks : ∀ w ∈ woX11_corks, w ∈ lw_tbl := lw_mem (big := lw_tbl) woX11_corks [1131, 1150, 1153, 1327, 1329, 52, 91, 1249, 1250, 1252, 1254, 39] (by decide +kernel)
theorem tbX11_corks : ∀ w ∈ wsX11_corks, w ∈ lw_tbl := tb_cons (List.mem_of_getElem? (i := 1405) (by decide +kernel)) (tb_app tboX11_corks (tb_app tbn_10 (tb_app tbX11_isWall (tb_app tbX11_bad tbX11_in))))
set_option maxRecDepth 20000 in
theorem tboX4_take : ∀ w ∈ woX4_take, w ∈ lw_tbl := lw_mem (big := lw_tbl) woX4_take [194, 417, 419, 418, 103, 200] (by decide +kernel)
theorem tbX4_take : ∀ w ∈ wsX4_take, w ∈ lw_tbl := tb_cons (List.mem_of_getElem? (i := 416) (by decide +kernel)) (tb_app tboX4_take tbn_2)
set_option maxRecDepth 20000 in
theorem tboX10_passTried : ∀ w ∈ woX10_passTried, w ∈ lw_tbl := lw_mem (big := lw_tbl) woX10_passTried [341, 202, 334, 832, 834, 18, 79, 836, 837, 838, 84, 403, 96, 90, 536, 89, 82, 887] (by decide +kernel)
theorem tbX10_passTried : ∀ w ∈ wsX10_passTried, w ∈ lw_tbl := tb_cons (List.mem_of_getElem? (i := 938) (by decide +kernel)) (tb_app tboX10_passTried (tb_app tbn_9 (tb_app tbn_2 (tb_app tbn_1 (tb_app tbn_8 (tb_app tbX10_inForce tbX4_pass))))))
set_option maxRecDepth 20000 in
theorem tboX10_trySigned : ∀ w ∈ woX10_trySigned, w ∈ lw_tbl := lw_mem (big := lw_tbl) woX10_trySigned [341, 338, 265, 196, 934, 414, 415, 84, 419, 418, 103, 817, 818, 819, 935, 937, 28, 79, 403, 96, 90, 536, 89, 82, 887] (by decide +kernel)
theorem tbX10_trySigned : ∀ w ∈ wsX10_trySigned, w ∈ lw_tbl := tb_cons (List.mem_of_getElem? (i := 933) (by decide +kernel)) (tb_app tboX10_trySigned (tb_app tbn_9 (tb_app tbn_6 (tb_app tbn_2 (tb_app tbn_1 (tb_app tbn_8 (tb_app tbX4_take (tb_app tbX4_pledge tbX10_passTried))))))))
set_option maxRecDepth 20000 in
theorem tboX10_would : ∀ w ∈ woX10_would, w ∈ lw_tbl := lw_mem (big := lw_tbl) woX10_would [341, 196, 813, 815, 17, 79, 102, 446, 425, 459, 461, 3, 95, 930, 932, 27, 84, 419, 418, 103, 403, 96, 90, 536, 89, 82, 887] (by decide +kernel)
theorem tbX10_would : ∀ w ∈ wsX10_would, w ∈ lw_tbl := tb_cons (List.mem_of_getElem? (i := 929) (by decide +kernel)) (tb_app tboX10_would (tb_app tbn_9 (tb_app tbn_2 (tb_app tbn_6 (tb_app tbn_1 (tb_app tbn_8 (tb_app tbX10_demandContractOrNone (tb_app tbX10_within (tb_app tbX10_demand tbX10_trySigned)))))))))
set_option maxRecDepth 20000 in
theorem tboL_would : ∀ w ∈ woL_would, w ∈ lw_tbl := lw_mem (big := lw_tbl) woL_would [758, 454, 926, 927, 928, 79, 102, 95, 84, 419, 418, 103, 403, 96, 90, 536, 89, 82, 887] (by decide +kernel)
theorem tbL_would : ∀ w ∈ wsL_would, w ∈ lw_tbl := tb_cons (List.mem_of_getElem? (i := 925) (by decide +kernel)) (tb_app tboL_would (tb_app tbn_9 (tb_app tbn_2 (tb_app tbn_6 (tb_app tbn_1 (tb_app tbn_8 tbX10_would))))))
set_option maxRecDepth 20000 in
theorem tboX11_areMonths : ∀ w ∈ woX11_areMonths, w ∈ lw_tbl := lw_mem (big := lw_tbl) woX11_areMonths [1249, 1250, 91] (by decide +kernel)
theorem tbX11_areMonths : ∀ w ∈ wsX11_areMonths, w ∈ lw_tbl := tb_cons (List.mem_of_getElem? (i := 1412) (by decide +kernel)) (tb_app tboX11_areMonths tbX11_in)
set_option maxRecDepth 20000 in
theorem tboX11_puts : ∀ w ∈ woX11_puts, w ∈ lw_tbl := lw_mem (big := lw_tbl) woX11_puts [1151, 1150] (by decide +kernel)
theorem tbX11_puts : ∀ w ∈ wsX11_puts, w ∈ lw_tbl := tb_cons (List.mem_of_getElem? (i := 1420) (by decide +kernel)) (tb_app tboX11_puts tbn_10)
set_option maxRecDepth 20000 in
theorem tboX11_goesOn : ∀ w ∈ woX11_goesOn, w ∈ lw_tbl := lw_mem (big := lw_tbl) woX11_goesOn [1359, 1361, 56, 91] (by decide +kernel)
theorem tbX11_goesOn : ∀ w ∈ wsX11_goesOn, w ∈ lw_tbl := tb_cons (List.mem_of_getElem? (i := 1424) (by decide +kernel)) (tb_app tboX11_goesOn (tb_app tbn_10 tbX11_monthGoes))
set_option maxRecDepth 20000 in
theorem tboX11_takes : ∀ w ∈ woX11_takes, w ∈ lw_tbl := lw_mem (big := lw_tbl) woX11_takes [1150, 1151] (by decide +kernel)
theorem tbX11_takes : ∀ w ∈ wsX11_takes, w ∈ lw_tbl := tb_cons (List.mem_of_getElem? (i := 1428) (by decide +kernel)) (tb_app tboX11_takes tbn_10)
set_option maxRecDepth 20000 in
theorem tboX11_by : ∀ w ∈ woX11_by, w ∈ lw_tbl := lw_mem (big := lw_tbl) woX11_by [1150, 1417, 1419, 65, 91, 1351, 1353, 55, 1421, 1423, 66, 1425, 1427, 67] (by decide +kernel)
theorem tbX11_by : ∀ w ∈ wsX11_by, w ∈ lw_tbl := tb_cons (List.mem_of_getElem? (i := 1416) (by decide +kernel)) (tb_app tboX11_by (tb_app tbn_10 (tb_app tbX11_puts (tb_app tbX11_signs (tb_app tbX11_goesOn tbX11_takes)))))
set_option maxRecDepth 20000 in
theorem tboX11_would : ∀ w ∈ woX11_would, w ∈ lw_tbl := lw_mem (big := lw_tbl) woX11_would [1131, 1335, 1337, 53, 91, 1249, 1250, 1252, 1254, 39, 1410, 1411, 1413, 1415, 64] (by decide +kernel)
theorem tbX11_would : ∀ w ∈ wsX11_would, w ∈ lw_tbl := tb_cons (List.mem_of_getElem? (i := 1409) (by decide +kernel)) (tb_app tboX11_would (tb_app tbn_10 (tb_app tbX11_isContract (tb_app tbX11_bad (tb_app tbX11_areMonths (tb_app tbX11_in tbX11_by))))))
set_option maxRecDepth 20000 in
theorem tboX10_best : ∀ w ∈ woX10_best, w ∈ lw_tbl := lw_mem (big := lw_tbl) woX10_best [337, 446, 425, 79, 459, 461, 3, 95, 930, 932, 27, 84, 419, 418, 103, 403, 96, 90, 536, 89, 82, 887] (by decide +kernel)
theorem tbX10_best : ∀ w ∈ wsX10_best, w ∈ lw_tbl := tb_cons (List.mem_of_getElem? (i := 945) (by decide +kernel)) (tb_app tboX10_best (tb_app tbn_9 (tb_app tbn_6 (tb_app tbn_2 (tb_app tbn_1 (tb_app tbn_8 (tb_app tbX10_within (tb_app tbX10_demand tbX10_trySigned))))))))
set_option maxRecDepth 20000 in
theorem tboL_best : ∀ w ∈ woL_best, w ∈ lw_tbl := lw_mem (big := lw_tbl) woL_best [454, 942, 943, 944, 79, 95, 84, 419, 418, 103, 403, 96, 90, 536, 89, 82, 887] (by decide +kernel)
theorem tbL_best : ∀ w ∈ wsL_best, w ∈ lw_tbl := tb_cons (List.mem_of_getElem? (i := 941) (by decide +kernel)) (tb_app tboL_best (tb_app tbn_9 (tb_app tbn_6 (tb_app tbn_2 (tb_app tbn_1 (tb_app tbn_8 tbX10_best))))))
set_option maxRecDepth 20000 in
theorem tboX11_best : ∀ w ∈ woX11_best, w ∈ lw_tbl := lw_mem (big := lw_tbl) woX11_best [1131, 1145, 1410, 1411, 91, 1249, 1250, 1252, 1254, 39, 1413, 1415, 64] (by decide +kernel)
theorem tbX11_best : ∀ w ∈ wsX11_best, w ∈ lw_tbl := tb_cons (List.mem_of_getElem? (i := 1432) (by decide +kernel)) (tb_app tboX11_best (tb_app tbn_10 (tb_app tbX11_areMonths (tb_app tbX11_in (tb_app tbX11_bad tbX11_by)))))
set_option maxRecDepth 20000 in
theorem tboX5_propose : ∀ w ∈ woX5_propose, w ∈ lw_tbl := lw_mem (big := lw_tbl) woX5_propose [313, 957, 716, 717, 89, 90] (by decide +kernel)
theorem tbX5_propose : ∀ w ∈ wsX5_propose, w ∈ lw_tbl := tb_cons (List.mem_of_getElem? (i := 956) (by decide +kernel)) (tb_app tboX5_propose (tb_app tbn_8 tbX5_clear))
set_option maxRecDepth 20000 in
theorem tboX10_offer : ∀ w ∈ woX10_offer, w ∈ lw_tbl := lw_mem (big := lw_tbl) woX10_offer [336, 334, 446, 425, 79, 459, 461, 3, 95, 802, 803, 804, 82, 953, 954, 955, 89, 90, 930, 932, 27, 84, 419, 418, 103, 403, 96, 536, 887] (by decide +kernel)
theorem tbX10_offer : ∀ w ∈ wsX10_offer, w ∈ lw_tbl := tb_cons (List.mem_of_getElem? (i := 952) (by decide +kernel)) (tb_app tboX10_offer (tb_app tbn_9 (tb_app tbn_1 (tb_app tbn_8 (tb_app tbn_6 (tb_app tbn_2 (tb_app tbX10_within (tb_app tbX10_demand (tb_app tbX6_wanted (tb_app tbX5_propose tbX10_trySigned))))))))))
set_option maxRecDepth 20000 in
theorem tboL_offer : ∀ w ∈ woL_offer, w ∈ lw_tbl := lw_mem (big := lw_tbl) woL_offer [454, 949, 950, 951, 79, 95, 82, 89, 90, 84, 419, 418, 103, 403, 96, 536, 887] (by decide +kernel)
theorem tbL_offer : ∀ w ∈ wsL_offer, w ∈ lw_tbl := tb_cons (List.mem_of_getElem? (i := 948) (by decide +kernel)) (tb_app tboL_offer (tb_app tbn_9 (tb_app tbn_1 (tb_app tbn_8 (tb_app tbn_6 (tb_app tbn_2 tbX10_offer))))))
set_option maxRecDepth 20000 in
theorem tboX11_byOffer : ∀ w ∈ woX11_byOffer, w ∈ lw_tbl := lw_mem (big := lw_tbl) woX11_byOffer [1150, 1417, 1419, 65, 91, 1351, 1353, 55, 1359, 1361, 56, 1425, 1427, 67] (by decide +kernel)
theorem tbX11_byOffer : ∀ w ∈ wsX11_byOffer, w ∈ lw_tbl := tb_cons (List.mem_of_getElem? (i := 1440) (by decide +kernel)) (tb_app tboX11_byOffer (tb_app tbn_10 (tb_app tbX11_puts (tb_app tbX11_signs (tb_app tbX11_monthGoes tbX11_takes)))))
set_option maxRecDepth 20000 in
theorem tboX11_offer : ∀ w ∈ woX11_offer, w ∈ lw_tbl := lw_mem (big := lw_tbl) woX11_offer [1131, 1148, 1149, 1410, 1411, 91, 1249, 1250, 1252, 1254, 39, 1343, 1345, 54, 1437, 1439, 68] (by decide +kernel)
theorem tbX11_offer : ∀ w ∈ wsX11_offer, w ∈ lw_tbl := tb_cons (List.mem_of_getElem? (i := 1436) (by decide +kernel)) (tb_app tboX11_offer (tb_app tbn_10 (tb_app tbX11_areMonths (tb_app tbX11_in (tb_app tbX11_bad (tb_app tbX11_wantsFor tbX11_byOffer))))))
set_option maxRecDepth 20000 in
theorem tboX10_nearest : ∀ w ∈ woX10_nearest, w ∈ lw_tbl := lw_mem (big := lw_tbl) woX10_nearest [334, 446, 425, 79, 459, 461, 3, 95, 802, 803, 804, 82] (by decide +kernel)
theorem tbX10_nearest : ∀ w ∈ wsX10_nearest, w ∈ lw_tbl := tb_cons (List.mem_of_getElem? (i := 964) (by decide +kernel)) (tb_app tboX10_nearest (tb_app tbn_9 (tb_app tbn_1 (tb_app tbX10_within (tb_app tbX10_demand tbX6_wanted)))))
set_option maxRecDepth 20000 in
theorem tboL_nearest : ∀ w ∈ woL_nearest, w ∈ lw_tbl := lw_mem (big := lw_tbl) woL_nearest [454, 961, 962, 963, 79, 95, 82] (by decide +kernel)
theorem tbL_nearest : ∀ w ∈ wsL_nearest, w ∈ lw_tbl := tb_cons (List.mem_of_getElem? (i := 960) (by decide +kernel)) (tb_app tboL_nearest (tb_app tbn_9 (tb_app tbn_1 tbX10_nearest)))
set_option maxRecDepth 20000 in
theorem tboX11_nearest : ∀ w ∈ woX11_nearest, w ∈ lw_tbl := lw_mem (big := lw_tbl) woX11_nearest [1131, 1249, 1250, 91, 1252, 1254, 39, 1343, 1345, 54] (by decide +kernel)
theorem tbX11_nearest : ∀ w ∈ wsX11_nearest, w ∈ lw_tbl := tb_cons (List.mem_of_getElem? (i := 1444) (by decide +kernel)) (tb_app tboX11_nearest (tb_app tbn_10 (tb_app tbX11_in (tb_app tbX11_bad tbX11_wantsFor))))
set_option maxRecDepth 20000 in
theorem tboX10_stop : ∀ w ∈ woX10_stop, w ∈ lw_tbl := lw_mem (big := lw_tbl) woX10_stop [341, 338, 265, 196, 446, 425, 79, 459, 461, 3, 95, 934, 414, 415, 84, 419, 418, 103, 935, 937, 28, 403, 96, 90, 536, 89, 82, 887, 817, 818, 819] (by decide +kernel)
theorem tbX10_stop : ∀ w ∈ wsX10_stop, w ∈ lw_tbl := tb_cons (List.mem_of_getElem? (i := 971) (by decide +kernel)) (tb_app tboX10_stop (tb_app tbn_9 (tb_app tbn_6 (tb_app tbn_2 (tb_app tbn_1 (tb_app tbn_8 (tb_app tbX10_within (tb_app tbX10_demand (tb_app tbX4_take (tb_app tbX10_passTried tbX4_pledge))))))))))
set_option maxRecDepth 20000 in
theorem tboL_stop : ∀ w ∈ woL_stop, w ∈ lw_tbl := lw_mem (big := lw_tbl) woL_stop [454, 968, 969, 970, 79, 95, 84, 419, 418, 103, 403, 96, 90, 536, 89, 82, 887] (by decide +kernel)
theorem tbL_stop : ∀ w ∈ wsL_stop, w ∈ lw_tbl := tb_cons (List.mem_of_getElem? (i := 967) (by decide +kernel)) (tb_app tboL_stop (tb_app tbn_9 (tb_app tbn_6 (tb_app tbn_2 (tb_app tbn_1 (tb_app tbn_8 tbX10_stop))))))
set_option maxRecDepth 20000 in
theorem tboX11_stop : ∀ w ∈ woX11_stop, w ∈ lw_tbl := lw_mem (big := lw_tbl) woX11_stop [1131, 1150, 1410, 1411, 91, 1249, 1250, 1252, 1254, 39, 1417, 1419, 65, 1421, 1423, 66, 1351, 1353, 55, 1425, 1427, 67] (by decide +kernel)
theorem tbX11_stop : ∀ w ∈ wsX11_stop, w ∈ lw_tbl := tb_cons (List.mem_of_getElem? (i := 1448) (by decide +kernel)) (tb_app tboX11_stop (tb_app tbn_10 (tb_app tbX11_areMonths (tb_app tbX11_in (tb_app tbX11_bad (tb_app tbX11_puts (tb_app tbX11_goesOn (tb_app tbX11_signs tbX11_takes))))))))
set_option maxRecDepth 20000 in
theorem tboX2_start : ∀ w ∈ woX2_start, w ∈ lw_tbl := lw_mem (big := lw_tbl) woX2_start [230, 231, 983, 700, 701, 86] (by decide +kernel)
theorem tbX2_start : ∀ w ∈ wsX2_start, w ∈ lw_tbl := tb_cons (List.mem_of_getElem? (i := 982) (by decide +kernel)) (tb_app tboX2_start (tb_app tbn_4 tbX2_forget))
set_option maxRecDepth 20000 in
theorem tboX10_odds : ∀ w ∈ woX10_odds, w ∈ lw_tbl := lw_mem (big := lw_tbl) woX10_odds [338, 269, 446, 425, 79, 459, 461, 3, 95, 979, 980, 981, 86] (by decide +kernel)
theorem tbX10_odds : ∀ w ∈ wsX10_odds, w ∈ lw_tbl := tb_cons (List.mem_of_getElem? (i := 978) (by decide +kernel)) (tb_app tboX10_odds (tb_app tbn_9 (tb_app tbn_6 (tb_app tbn_4 (tb_app tbX10_within (tb_app tbX10_demand tbX2_start))))))
set_option maxRecDepth 20000 in
theorem tboL_odds : ∀ w ∈ woL_odds, w ∈ lw_tbl := lw_mem (big := lw_tbl) woL_odds [454, 975, 976, 977, 79, 95, 86] (by decide +kernel)
theorem tbL_odds : ∀ w ∈ wsL_odds, w ∈ lw_tbl := tb_cons (List.mem_of_getElem? (i := 974) (by decide +kernel)) (tb_app tboL_odds (tb_app tbn_9 (tb_app tbn_6 (tb_app tbn_4 tbX10_odds))))
set_option maxRecDepth 20000 in
theorem tboX11_odds : ∀ w ∈ woX11_odds, w ∈ lw_tbl := lw_mem (big := lw_tbl) woX11_odds [1131, 1155, 1156, 1157, 1249, 1250, 91, 1252, 1254, 39] (by decide +kernel)
theorem tbX11_odds : ∀ w ∈ wsX11_odds, w ∈ lw_tbl := tb_cons (List.mem_of_getElem? (i := 1452) (by decide +kernel)) (tb_app tboX11_odds (tb_app tbn_10 (tb_app tbX11_in tbX11_bad)))
set_option maxRecDepth 20000 in
theorem tboX10_kind : ∀ w ∈ woX10_kind, w ∈ lw_tbl := lw_mem (big := lw_tbl) woX10_kind [338, 269, 227, 229, 446, 425, 79, 459, 461, 3, 95] (by decide +kernel)
theorem tbX10_kind : ∀ w ∈ wsX10_kind, w ∈ lw_tbl := tb_cons (List.mem_of_getElem? (i := 990) (by decide +kernel)) (tb_app tboX10_kind (tb_app tbn_9 (tb_app tbn_6 (tb_app tbn_4 (tb_app tbX10_within tbX10_demand)))))
set_option maxRecDepth 20000 in
theorem tboL_kind : ∀ w ∈ woL_kind, w ∈ lw_tbl := lw_mem (big := lw_tbl) woL_kind [454, 987, 988, 989, 79, 95] (by decide +kernel)
theorem tbL_kind : ∀ w ∈ wsL_kind, w ∈ lw_tbl := tb_cons (List.mem_of_getElem? (i := 986) (by decide +kernel)) (tb_app tboL_kind (tb_app tbn_9 (tb_app tbn_6 (tb_app tbn_4 tbX10_kind))))
set_option maxRecDepth 20000 in
theorem tboX11_kind : ∀ w ∈ woX11_kind, w ∈ lw_tbl := lw_mem (big := lw_tbl) woX11_kind [1131, 1160, 1249, 1250, 91, 1252, 1254, 39] (by decide +kernel)
theorem tbX11_kind : ∀ w ∈ wsX11_kind, w ∈ lw_tbl := tb_cons (List.mem_of_getElem? (i := 1456) (by decide +kernel)) (tb_app tboX11_kind (tb_app tbn_10 (tb_app tbX11_in tbX11_bad)))
set_option maxRecDepth 20000 in
theorem tboX2_add : ∀ w ∈ woX2_add, w ∈ lw_tbl := lw_mem (big := lw_tbl) woX2_add [234, 232, 233] (by decide +kernel)
theorem tbX2_add : ∀ w ∈ wsX2_add, w ∈ lw_tbl := tb_cons (List.mem_of_getElem? (i := 1001) (by decide +kernel)) (tb_app tboX2_add tbn_4)
set_option maxRecDepth 20000 in
theorem tboX10_seen : ∀ w ∈ woX10_seen, w ∈ lw_tbl := lw_mem (big := lw_tbl) woX10_seen [338, 269, 227, 229, 446, 425, 79, 459, 461, 3, 95, 998, 999, 1000, 86] (by decide +kernel)
theorem tbX10_seen : ∀ w ∈ wsX10_seen, w ∈ lw_tbl := tb_cons (List.mem_of_getElem? (i := 997) (by decide +kernel)) (tb_app tboX10_seen (tb_app tbn_9 (tb_app tbn_6 (tb_app tbn_4 (tb_app tbX10_within (tb_app tbX10_demand tbX2_add))))))
set_option maxRecDepth 20000 in
theorem tboL_seen : ∀ w ∈ woL_seen, w ∈ lw_tbl := lw_mem (big := lw_tbl) woL_seen [454, 994, 995, 996, 79, 95, 86] (by decide +kernel)
theorem tbL_seen : ∀ w ∈ wsL_seen, w ∈ lw_tbl := tb_cons (List.mem_of_getElem? (i := 993) (by decide +kernel)) (tb_app tboL_seen (tb_app tbn_9 (tb_app tbn_6 (tb_app tbn_4 tbX10_seen))))
set_option maxRecDepth 20000 in
theorem tboX11_isSeen : ∀ w ∈ woX11_isSeen, w ∈ lw_tbl := lw_mem (big := lw_tbl) woX11_isSeen [1157, 1161] (by decide +kernel)
theorem tbX11_isSeen : ∀ w ∈ wsX11_isSeen, w ∈ lw_tbl := tb_cons (List.mem_of_getElem? (i := 1464) (by decide +kernel)) (tb_app tboX11_isSeen tbn_10)
set_option maxRecDepth 20000 in
theorem tboX11_seen : ∀ w ∈ woX11_seen, w ∈ lw_tbl := lw_mem (big := lw_tbl) woX11_seen [1131, 1160, 1249, 1250, 91, 1252, 1254, 39, 1461, 1463, 69] (by decide +kernel)
theorem tbX11_seen : ∀ w ∈ wsX11_seen, w ∈ lw_tbl := tb_cons (List.mem_of_getElem? (i := 1460) (by decide +kernel)) (tb_app tboX11_seen (tb_app tbn_10 (tb_app tbX11_in (tb_app tbX11_bad tbX11_isSeen))))
set_option maxRecDepth 20000 in
theorem tboX10_spy : ∀ w ∈ woX10_spy, w ∈ lw_tbl := lw_mem (big := lw_tbl) woX10_spy [338, 269, 446, 425, 79, 459, 461, 3, 95, 998, 999, 1000, 86] (by decide +kernel)
theorem tbX10_spy : ∀ w ∈ wsX10_spy, w ∈ lw_tbl := tb_cons (List.mem_of_getElem? (i := 1008) (by decide +kernel)) (tb_app tboX10_spy (tb_app tbn_9 (tb_app tbn_6 (tb_app tbn_4 (tb_app tbX10_within (tb_app tbX10_demand tbX2_add))))))
set_option maxRecDepth 20000 in
theorem tboL_spy : ∀ w ∈ woL_spy, w ∈ lw_tbl := lw_mem (big := lw_tbl) woL_spy [454, 1005, 1006, 1007, 79, 95, 86] (by decide +kernel)
theorem tbL_spy : ∀ w ∈ wsL_spy, w ∈ lw_tbl := tb_cons (List.mem_of_getElem? (i := 1004) (by decide +kernel)) (tb_app tboL_spy (tb_app tbn_9 (tb_app tbn_6 (tb_app tbn_4 tbX10_spy))))
set_option maxRecDepth 20000 in
theorem tboX11_spy : ∀ w ∈ woX11_spy, w ∈ lw_tbl := lw_mem (big := lw_tbl) woX11_spy [1131, 1249, 1250, 91, 1252, 1254, 39, 1461, 1463, 69] (by decide +kernel)
theorem tbX11_spy : ∀ w ∈ wsX11_spy, w ∈ lw_tbl := tb_cons (List.mem_of_getElem? (i := 1468) (by decide +kernel)) (tb_app tboX11_spy (tb_app tbn_10 (tb_app tbX11_in (tb_app tbX11_bad tbX11_isSeen))))
set_option maxRecDepth 20000 in
theorem tboX2_leastTerm : ∀ w ∈ woX2_leastTerm, w ∈ lw_tbl := lw_mem (big := lw_tbl) woX2_leastTerm [232, 233] (by decide +kernel)
theorem tbX2_leastTerm : ∀ w ∈ wsX2_leastTerm, w ∈ lw_tbl := tb_cons (List.mem_of_getElem? (i := 1019) (by decide +kernel)) (tb_app tboX2_leastTerm tbn_4)
set_option maxRecDepth 20000 in
theorem tboX10_believed : ∀ w ∈ woX10_believed, w ∈ lw_tbl := lw_mem (big := lw_tbl) woX10_believed [338, 269, 446, 425, 79, 459, 461, 3, 95, 1016, 1017, 1018, 86] (by decide +kernel)
theorem tbX10_believed : ∀ w ∈ wsX10_believed, w ∈ lw_tbl := tb_cons (List.mem_of_getElem? (i := 1015) (by decide +kernel)) (tb_app tboX10_believed (tb_app tbn_9 (tb_app tbn_6 (tb_app tbn_4 (tb_app tbX10_within (tb_app tbX10_demand tbX2_leastTerm))))))
set_option maxRecDepth 20000 in
theorem tboL_believed : ∀ w ∈ woL_believed, w ∈ lw_tbl := lw_mem (big := lw_tbl) woL_believed [454, 1012, 1013, 1014, 79, 95, 86] (by decide +kernel)
theorem tbL_believed : ∀ w ∈ wsL_believed, w ∈ lw_tbl := tb_cons (List.mem_of_getElem? (i := 1011) (by decide +kernel)) (tb_app tboL_believed (tb_app tbn_9 (tb_app tbn_6 (tb_app tbn_4 tbX10_believed))))
set_option maxRecDepth 20000 in
theorem tboX11_believed : ∀ w ∈ woX11_believed, w ∈ lw_tbl := lw_mem (big := lw_tbl) woX11_believed [1131, 1155, 1156, 1157, 1161, 1249, 1250, 91, 1252, 1254, 39] (by decide +kernel)
theorem tbX11_believed : ∀ w ∈ wsX11_believed, w ∈ lw_tbl := tb_cons (List.mem_of_getElem? (i := 1472) (by decide +kernel)) (tb_app tboX11_believed (tb_app tbn_10 (tb_app tbX11_in tbX11_bad)))
set_option maxRecDepth 20000 in
theorem tboX1_prepare : ∀ w ∈ woX1_prepare, w ∈ lw_tbl := lw_mem (big := lw_tbl) woX1_prepare [166, 1031, 536, 96, 537, 293, 290, 159, 291] (by decide +kernel)
theorem tbX1_prepare : ∀ w ∈ wsX1_prepare, w ∈ lw_tbl := tb_cons (List.mem_of_getElem? (i := 1030) (by decide +kernel)) (tb_app tboX1_prepare (tb_app tbn_1 tbn_7))
set_option maxRecDepth 20000 in
theorem tboX1_all : ∀ w ∈ woX1_all, w ∈ lw_tbl := lw_mem (big := lw_tbl) woX1_all [293] (by decide +kernel)
theorem tbX1_all : ∀ w ∈ wsX1_all, w ∈ lw_tbl := tb_cons (List.mem_of_getElem? (i := 1035) (by decide +kernel)) (tb_app tboX1_all tbn_7)
set_option maxRecDepth 20000 in
theorem tboX1_place : ∀ w ∈ woX1_place, w ∈ lw_tbl := lw_mem (big := lw_tbl) woX1_place [292] (by decide +kernel)
theorem tbX1_place : ∀ w ∈ wsX1_place, w ∈ lw_tbl := tb_cons (List.mem_of_getElem? (i := 1043) (by decide +kernel)) (tb_app tboX1_place tbn_7)
set_option maxRecDepth 20000 in
theorem tboX1_menToFell : ∀ w ∈ woX1_menToFell, w ∈ lw_tbl := lw_mem (big := lw_tbl) woX1_menToFell [292, 291] (by decide +kernel)
theorem tbX1_menToFell : ∀ w ∈ wsX1_menToFell, w ∈ lw_tbl := tb_cons (List.mem_of_getElem? (i := 1051) (by decide +kernel)) (tb_app tboX1_menToFell tbn_7)
set_option maxRecDepth 20000 in
theorem tboX1_worthOf : ∀ w ∈ woX1_worthOf, w ∈ lw_tbl := lw_mem (big := lw_tbl) woX1_worthOf [290] (by decide +kernel)
theorem tbX1_worthOf : ∀ w ∈ wsX1_worthOf, w ∈ lw_tbl := tb_cons (List.mem_of_getElem? (i := 1055) (by decide +kernel)) (tb_app tboX1_worthOf tbn_7)
set_option maxRecDepth 20000 in
theorem tboX1_mostFelled : ∀ w ∈ woX1_mostFelled, w ∈ lw_tbl := lw_mem (big := lw_tbl) woX1_mostFelled [1056, 403, 96, 404, 1048, 1050, 31, 88, 1052, 1054, 32] (by decide +kernel)
theorem tbX1_mostFelled : ∀ w ∈ wsX1_mostFelled, w ∈ lw_tbl := tb_cons (List.mem_of_getElem? (i := 1047) (by decide +kernel)) (tb_app tboX1_mostFelled (tb_app tbn_7 (tb_app tbX1_menToFell tbX1_worthOf)))
set_option maxRecDepth 20000 in
theorem tboX1_digits : ∀ w ∈ woX1_digits, w ∈ lw_tbl := lw_mem (big := lw_tbl) woX1_digits [293, 292] (by decide +kernel)
theorem tbX1_digits : ∀ w ∈ wsX1_digits, w ∈ lw_tbl := tb_cons (List.mem_of_getElem? (i := 1060) (by decide +kernel)) (tb_app tboX1_digits tbn_7)
set_option maxRecDepth 20000 in
theorem tboX1_safe : ∀ w ∈ woX1_safe, w ∈ lw_tbl := lw_mem (big := lw_tbl) woX1_safe [295, 1056, 403, 96, 1040, 1042, 29, 88, 1044, 1046, 30, 1057, 1059, 33] (by decide +kernel)
theorem tbX1_safe : ∀ w ∈ wsX1_safe, w ∈ lw_tbl := tb_cons (List.mem_of_getElem? (i := 1039) (by decide +kernel)) (tb_app tboX1_safe (tb_app tbn_7 (tb_app tbX1_place (tb_app tbX1_mostFelled tbX1_digits))))
set_option maxRecDepth 20000 in
theorem tboX1_menToHold : ∀ w ∈ woX1_menToHold, w ∈ lw_tbl := lw_mem (big := lw_tbl) woX1_menToHold [292, 291, 1056, 403, 96, 404] (by decide +kernel)
theorem tbX1_menToHold : ∀ w ∈ wsX1_menToHold, w ∈ lw_tbl := tb_cons (List.mem_of_getElem? (i := 1073) (by decide +kernel)) (tb_app tboX1_menToHold tbn_7)
set_option maxRecDepth 20000 in
theorem tboX1_leastFelled : ∀ w ∈ woX1_leastFelled, w ∈ lw_tbl := lw_mem (big := lw_tbl) woX1_leastFelled [1056, 403, 96, 1065, 1033, 1034, 88, 1070, 1072, 35, 1052, 1054, 32] (by decide +kernel)
theorem tbX1_leastFelled : ∀ w ∈ wsX1_leastFelled, w ∈ lw_tbl := tb_cons (List.mem_of_getElem? (i := 1069) (by decide +kernel)) (tb_app tboX1_leastFelled (tb_app tbn_7 (tb_app tbX1_all (tb_app tbX1_menToHold tbX1_worthOf))))
set_option maxRecDepth 20000 in
theorem tboX1_sure : ∀ w ∈ woX1_sure, w ∈ lw_tbl := lw_mem (big := lw_tbl) woX1_sure [1056, 403, 96, 1065, 1033, 1034, 88, 1040, 1042, 29, 1066, 1068, 34] (by decide +kernel)
theorem tbX1_sure : ∀ w ∈ wsX1_sure, w ∈ lw_tbl := tb_cons (List.mem_of_getElem? (i := 1064) (by decide +kernel)) (tb_app tboX1_sure (tb_app tbn_7 (tb_app tbX1_all (tb_app tbX1_place tbX1_leastFelled))))
set_option maxRecDepth 20000 in
theorem tboX10_earnest : ∀ w ∈ woX10_earnest, w ∈ lw_tbl := lw_mem (big := lw_tbl) woX10_earnest [342, 334, 446, 425, 79, 459, 461, 3, 95, 1027, 1028, 1029, 88, 536, 96, 1032, 1033, 1034, 1036, 1037, 1038, 403, 1061, 1062, 1063] (by decide +kernel)
theorem tbX10_earnest : ∀ w ∈ wsX10_earnest, w ∈ lw_tbl := tb_cons (List.mem_of_getElem? (i := 1026) (by decide +kernel)) (tb_app tboX10_earnest (tb_app tbn_9 (tb_app tbn_1 (tb_app tbn_7 (tb_app tbX10_within (tb_app tbX10_demand (tb_app tbX1_prepare (tb_app tbX1_all (tb_app tbX1_safe tbX1_sure)))))))))
set_option maxRecDepth 20000 in
theorem tboL_earnest : ∀ w ∈ woL_earnest, w ∈ lw_tbl := lw_mem (big := lw_tbl) woL_earnest [454, 1023, 1024, 1025, 79, 95, 88, 536, 96, 403] (by decide +kernel)
theorem tbL_earnest : ∀ w ∈ wsL_earnest, w ∈ lw_tbl := tb_cons (List.mem_of_getElem? (i := 1022) (by decide +kernel)) (tb_app tboL_earnest (tb_app tbn_9 (tb_app tbn_1 (tb_app tbn_7 tbX10_earnest))))
set_option maxRecDepth 20000 in
theorem tboX11_areTens : ∀ w ∈ woX11_areTens, w ∈ lw_tbl := lw_mem (big := lw_tbl) woX11_areTens [1249, 1250, 91] (by decide +kernel)
theorem tbX11_areTens : ∀ w ∈ wsX11_areTens, w ∈ lw_tbl := tb_cons (List.mem_of_getElem? (i := 1479) (by decide +kernel)) (tb_app tboX11_areTens tbX11_in)
set_option maxRecDepth 20000 in
theorem tboX11_firstWalls : ∀ w ∈ woX11_firstWalls, w ∈ lw_tbl := lw_mem (big := lw_tbl) woX11_firstWalls [1142, 1367, 1368, 91] (by decide +kernel)
theorem tbX11_firstWalls : ∀ w ∈ wsX11_firstWalls, w ∈ lw_tbl := tb_cons (List.mem_of_getElem? (i := 1483) (by decide +kernel)) (tb_app tboX11_firstWalls (tb_app tbn_10 tbX11_less))
theorem tbX11_digit : ∀ w ∈ wsX11_digit, w ∈ lw_tbl := tb_cons (List.mem_of_getElem? (i := 1493) (by decide +kernel)) tb_nil
set_option maxRecDepth 20000 in
theorem tboX11_puts0 : ∀ w ∈ woX11_puts0, w ∈ lw_tbl := lw_mem (big := lw_tbl) woX11_puts0 [1491, 1492, 91] (by decide +kernel)
theorem tbX11_puts0 : ∀ w ∈ wsX11_puts0, w ∈ lw_tbl := tb_cons (List.mem_of_getElem? (i := 1490) (by decide +kernel)) (tb_app tboX11_puts0 tbX11_digit)
set_option maxRecDepth 20000 in
theorem tboX11_falls : ∀ w ∈ woX11_falls, w ∈ lw_tbl := lw_mem (big := lw_tbl) woX11_falls [1144, 1491, 1492, 91] (by decide +kernel)
theorem tbX11_falls : ∀ w ∈ wsX11_falls, w ∈ lw_tbl := tb_cons (List.mem_of_getElem? (i := 1497) (by decide +kernel)) (tb_app tboX11_falls (tb_app tbn_10 tbX11_digit))
set_option maxRecDepth 20000 in
theorem tboX11_safeBy : ∀ w ∈ woX11_safeBy, w ∈ lw_tbl := lw_mem (big := lw_tbl) woX11_safeBy [1164, 1488, 1489, 91, 1494, 1496, 72] (by decide +kernel)
theorem tbX11_safeBy : ∀ w ∈ wsX11_safeBy, w ∈ lw_tbl := tb_cons (List.mem_of_getElem? (i := 1487) (by decide +kernel)) (tb_app tboX11_safeBy (tb_app tbn_10 (tb_app tbX11_puts0 tbX11_falls)))
set_option maxRecDepth 20000 in
theorem tboX11_sureBy : ∀ w ∈ woX11_sureBy, w ∈ lw_tbl := lw_mem (big := lw_tbl) woX11_sureBy [1488, 1489, 91, 1494, 1496, 72] (by decide +kernel)
theorem tbX11_sureBy : ∀ w ∈ wsX11_sureBy, w ∈ lw_tbl := tb_cons (List.mem_of_getElem? (i := 1501) (by decide +kernel)) (tb_app tboX11_sureBy (tb_app tbn_10 (tb_app tbX11_puts0 tbX11_falls)))
set_option maxRecDepth 20000 in
theorem tboX11_earnest : ∀ w ∈ woX11_earnest, w ∈ lw_tbl := lw_mem (big := lw_tbl) woX11_earnest [1131, 1477, 1478, 91, 1249, 1250, 1252, 1254, 39, 1480, 1482, 70, 1484, 1486, 71, 1498, 1500, 73] (by decide +kernel)
theorem tbX11_earnest : ∀ w ∈ wsX11_earnest, w ∈ lw_tbl := tb_cons (List.mem_of_getElem? (i := 1476) (by decide +kernel)) (tb_app tboX11_earnest (tb_app tbn_10 (tb_app tbX11_areTens (tb_app tbX11_in (tb_app tbX11_bad (tb_app tbX11_firstWalls (tb_app tbX11_safeBy tbX11_sureBy)))))))
set_option maxRecDepth 20000 in
theorem tboX10_stands : ∀ w ∈ woX10_stands, w ∈ lw_tbl := lw_mem (big := lw_tbl) woX10_stands [342, 334, 296, 446, 425, 79, 459, 461, 3, 95, 1027, 1028, 1029, 88, 536, 96, 1032, 1033, 1034, 1036, 1037, 1038, 403] (by decide +kernel)
theorem tbX10_stands : ∀ w ∈ wsX10_stands, w ∈ lw_tbl := tb_cons (List.mem_of_getElem? (i := 1080) (by decide +kernel)) (tb_app tboX10_stands (tb_app tbn_9 (tb_app tbn_7 (tb_app tbn_1 (tb_app tbX10_within (tb_app tbX10_demand (tb_app tbX1_prepare (tb_app tbX1_all tbX1_safe))))))))
set_option maxRecDepth 20000 in
theorem tboL_stands : ∀ w ∈ woL_stands, w ∈ lw_tbl := lw_mem (big := lw_tbl) woL_stands [454, 1077, 1078, 1079, 79, 95, 88, 536, 96, 403] (by decide +kernel)
theorem tbL_stands : ∀ w ∈ wsL_stands, w ∈ lw_tbl := tb_cons (List.mem_of_getElem? (i := 1076) (by decide +kernel)) (tb_app tboL_stands (tb_app tbn_9 (tb_app tbn_7 (tb_app tbn_1 tbX10_stands))))
set_option maxRecDepth 20000 in
theorem tboX11_stands : ∀ w ∈ woX11_stands, w ∈ lw_tbl := lw_mem (big := lw_tbl) woX11_stands [1131, 1142, 1164, 1477, 1478, 91, 1252, 1254, 39, 1480, 1482, 70, 1367, 1368, 1484, 1486, 71, 1491, 1492] (by decide +kernel)
theorem tbX11_stands : ∀ w ∈ wsX11_stands, w ∈ lw_tbl := tb_cons (List.mem_of_getElem? (i := 1505) (by decide +kernel)) (tb_app tboX11_stands (tb_app tbn_10 (tb_app tbX11_areTens (tb_app tbX11_bad (tb_app tbX11_firstWalls (tb_app tbX11_safeBy (tb_app tbX11_less tbX11_digit)))))))
set_option maxRecDepth 20000 in
theorem tboX10_show : ∀ w ∈ woX10_show, w ∈ lw_tbl := lw_mem (big := lw_tbl) woX10_show [342, 334, 294, 446, 425, 79, 459, 461, 3, 95, 1027, 1028, 1029, 88, 536, 96, 1032, 1033, 1034, 1036, 1037, 1038, 403] (by decide +kernel)
theorem tbX10_show : ∀ w ∈ wsX10_show, w ∈ lw_tbl := tb_cons (List.mem_of_getElem? (i := 1087) (by decide +kernel)) (tb_app tboX10_show (tb_app tbn_9 (tb_app tbn_7 (tb_app tbn_1 (tb_app tbX10_within (tb_app tbX10_demand (tb_app tbX1_prepare (tb_app tbX1_all tbX1_safe))))))))
set_option maxRecDepth 20000 in
theorem tboL_show : ∀ w ∈ woL_show, w ∈ lw_tbl := lw_mem (big := lw_tbl) woL_show [454, 1084, 1085, 1086, 79, 95, 88, 536, 96, 403] (by decide +kernel)
theorem tbL_show : ∀ w ∈ wsL_show, w ∈ lw_tbl := tb_cons (List.mem_of_getElem? (i := 1083) (by decide +kernel)) (tb_app tboL_show (tb_app tbn_9 (tb_app tbn_7 (tb_app tbn_1 tbX10_show))))
set_option maxRecDepth 20000 in
theorem tboX11_show : ∀ w ∈ woX11_show, w ∈ lw_tbl := lw_mem (big := lw_tbl) woX11_show [1131, 1477, 1478, 91, 1252, 1254, 39, 1480, 1482, 70, 1484, 1486, 71] (by decide +kernel)
theorem tbX11_show : ∀ w ∈ wsX11_show, w ∈ lw_tbl := tb_cons (List.mem_of_getElem? (i := 1509) (by decide +kernel)) (tb_app tboX11_show (tb_app tbn_10 (tb_app tbX11_areTens (tb_app tbX11_bad (tb_app tbX11_firstWalls tbX11_safeBy)))))
set_option maxRecDepth 20000 in
theorem tboX3_bid : ∀ w ∈ woX3_bid, w ∈ lw_tbl := lw_mem (big := lw_tbl) woX3_bid [257] (by decide +kernel)
theorem tbX3_bid : ∀ w ∈ wsX3_bid, w ∈ lw_tbl := tb_cons (List.mem_of_getElem? (i := 1098) (by decide +kernel)) (tb_app tboX3_bid tbn_5)
set_option maxRecDepth 20000 in
theorem tboX10_offers : ∀ w ∈ woX10_offers, w ∈ lw_tbl := lw_mem (big := lw_tbl) woX10_offers [338, 271, 446, 425, 79, 459, 461, 3, 95, 1095, 1096, 1097, 87] (by decide +kernel)
theorem tbX10_offers : ∀ w ∈ wsX10_offers, w ∈ lw_tbl := tb_cons (List.mem_of_getElem? (i := 1094) (by decide +kernel)) (tb_app tboX10_offers (tb_app tbn_9 (tb_app tbn_6 (tb_app tbn_5 (tb_app tbX10_within (tb_app tbX10_demand tbX3_bid))))))
set_option maxRecDepth 20000 in
theorem tboL_offers : ∀ w ∈ woL_offers, w ∈ lw_tbl := lw_mem (big := lw_tbl) woL_offers [454, 1091, 1092, 1093, 79, 95, 87] (by decide +kernel)
theorem tbL_offers : ∀ w ∈ wsL_offers, w ∈ lw_tbl := tb_cons (List.mem_of_getElem? (i := 1090) (by decide +kernel)) (tb_app tboL_offers (tb_app tbn_9 (tb_app tbn_6 (tb_app tbn_5 tbX10_offers))))
set_option maxRecDepth 20000 in
theorem tboX11_offers : ∀ w ∈ woX11_offers, w ∈ lw_tbl := lw_mem (big := lw_tbl) woX11_offers [1131, 1162, 1249, 1250, 91, 1252, 1254, 39] (by decide +kernel)
theorem tbX11_offers : ∀ w ∈ wsX11_offers, w ∈ lw_tbl := tb_cons (List.mem_of_getElem? (i := 1513) (by decide +kernel)) (tb_app tboX11_offers (tb_app tbn_10 (tb_app tbX11_in tbX11_bad)))
theorem tbX3_mayFollow : ∀ w ∈ wsX3_mayFollow, w ∈ lw_tbl := tb_cons (List.mem_of_getElem? (i := 397) (by decide +kernel)) tb_nil
set_option maxRecDepth 20000 in
theorem tboX3_through : ∀ w ∈ woX3_through, w ∈ lw_tbl := lw_mem (big := lw_tbl) woX3_through [257, 258] (by decide +kernel)
